/-! the reference to be called with any numbers, by program -/
noncomputable def bX9_isIna_18 {d : Nat} (P : zP d) : zK d := (xzret P)
set_option maxRecDepth 100000 in
set_option maxHeartbeats 4000000 in
theorem sbX9_isIna_18 {d : Nat} [zGh] (P : zP d) : zSim X_X9_isIn 1 P 18 (bX9_isIna_18 P) := by
  unfold bX9_isIna_18
  exact sm_zreturn (pc := 18) dX9_isIn_18 rfl
noncomputable def bX9_isIna_17 {d : Nat} (P : zP d) (j18 : zK d) : zK d := (xpI 0 j18)
set_option maxRecDepth 100000 in
set_option maxHeartbeats 4000000 in
theorem sbX9_isIna_17 {d : Nat} [zGh] (P : zP d) (j18 : zK d) (hj18 : zSimJ 1 X_X9_isIn 1 P 18 j18) : zSim X_X9_isIn 1 P 17 (bX9_isIna_17 P j18) := by
  unfold bX9_isIna_17
  refine sm_iconst (pc := 17) dX9_isIn_17 zc_i_0 ?_
  exact hj18.use
noncomputable def b_X9_isIna {d : Nat} (P : zP d) : zK d := (xlld 0 (xlld 2 (xlcmpR (xjoin (bX9_isIna_18 P) (fun j18 => (xjoin (bX9_isIna_17 P j18) (fun j17 => (xif0S tgeR rlGe rhS rlS rhLt (xlld 0 (xlld 4 (xlcmpR (xif0S tleR rlS rhLe rlGt rhS (xpI 1 j18) j17)))) j17))))))))
set_option maxRecDepth 100000 in
set_option maxHeartbeats 4000000 in
theorem s_X9_isIna {d : Nat} [zGh] (P : zP d) : zSim X_X9_isIn 1 P 0 (b_X9_isIna P) := by
  unfold b_X9_isIna
  refine sm_lload_n (pc := 0) (n := 0) dX9_isIn_0 rfl ?_
  refine sm_lload_n (pc := 1) (n := 2) dX9_isIn_1 rfl ?_
  refine sm_lcmpR (pc := 2) dX9_isIn_2 ?_
  refine sm_joinJ (pc := 3) (pc' := 18) (j := 1) (fun G0 hG0 => @sbX9_isIna_18 d G0 P) (fun j18 hj18 => ?_)
  refine sm_joinJ (pc := 3) (pc' := 17) (j := 1) (fun G0 hG0 => @sbX9_isIna_17 d G0 P j18 (hj18.mv hG0 (by decide))) (fun j17 hj17 => ?_)
  refine sm_ifS_lt (pc := 3) (tgt := 17) dX9_isIn_3 (by decide) ?_ ?_
  · skip
    exact hj17.use
  · skip
    refine sm_lload_n (pc := 6) (n := 0) dX9_isIn_6 rfl ?_
    refine sm_lload (pc := 7) (n := 4) dX9_isIn_7 ?_
    refine sm_lcmpR (pc := 9) dX9_isIn_9 ?_
    refine sm_ifS_gt (pc := 10) (tgt := 17) dX9_isIn_10 (by decide) ?_ ?_
    · skip
      exact hj17.use
    · skip
      refine sm_iconst (pc := 13) dX9_isIn_13 zc_i_1 ?_
      refine sm_goto (pc := 14) (tgt := 18) dX9_isIn_14 (by decide) ?_
      exact hj18.use
noncomputable def f_X9_isIna {d : Nat} : List zV → zH d → zP d → Bool := zfn 6 b_X9_isIna
theorem m_X9_isIna {d : Nat} : zMet (d := d) X_X9_isIn yX9_isIn 1 f_X9_isIna := zmet_mk (X := X_X9_isIn) (by decide) rfl rfl s_X9_isIna

noncomputable def b_X9_isParta {d : Nat} (P : zP d) : zK d := (xild 1 (xi2lR (xpL 0 (xald 0 (xgfI 25 2 (xpI 1 (xbin zsubR (xi2lR (xcS 3 0 0 (zstr f_X9_isIna) (xzret P))))))))))
set_option maxRecDepth 100000 in
set_option maxHeartbeats 4000000 in
theorem s_X9_isParta {d : Nat} [zGh] (P : zP d) : zSim X_X9_isPart 2 P 0 (b_X9_isParta P) := by
  unfold b_X9_isParta
  refine sm_iload_n (pc := 0) (n := 1) dX9_isPart_0 rfl ?_
  refine sm_i2lR (pc := 1) dX9_isPart_1 ?_
  refine sm_lconst (pc := 2) dX9_isPart_2 zc_l_0 ?_
  refine sm_aload_n (pc := 3) (n := 0) dX9_isPart_3 rfl ?_
  refine gf_X9_153 (pc := 4) rfl dX9_isPart_4 ?_
  refine sm_iconst (pc := 7) dX9_isPart_7 zc_i_1 ?_
  refine sm_isubR (pc := 8) dX9_isPart_8 ?_
  refine sm_i2lR (pc := 9) dX9_isPart_9 ?_
  refine sm_cS (pc := 10) (n := 3) (mc := 0) (ms := 0) (zMet_str m_X9_isIna) (cr_X9_283 (X := X_X9_isPart) (fr := 2) (frc := 1) (pc := 10) (mc := 0) (ms := 0) rfl (by decide) dX9_isPart_10) ?_
  exact sm_zreturn (pc := 13) dX9_isPart_13 rfl
noncomputable def f_X9_isParta {d : Nat} : List zV → zH d → zP d → Bool := zfn 2 b_X9_isParta
theorem m_X9_isParta {d : Nat} : zMet (d := d) X_X9_isPart yX9_isPart 2 f_X9_isParta := zmet_mk (X := X_X9_isPart) (by decide) rfl rfl s_X9_isParta

noncomputable def b_X9_isSlota {d : Nat} (P : zP d) : zK d := (xild 0 (xi2lR (xpL 0 (xpL 5 (xcS 3 0 0 (zstr f_X9_isIna) (xzret P))))))
set_option maxRecDepth 100000 in
set_option maxHeartbeats 4000000 in
theorem s_X9_isSlota {d : Nat} [zGh] (P : zP d) : zSim X_X9_isSlot 2 P 0 (b_X9_isSlota P) := by
  unfold b_X9_isSlota
  refine sm_iload_n (pc := 0) (n := 0) dX9_isSlot_0 rfl ?_
  refine sm_i2lR (pc := 1) dX9_isSlot_1 ?_
  refine sm_lconst (pc := 2) dX9_isSlot_2 zc_l_0 ?_
  refine sm_ldc2 (pc := 3) dX9_isSlot_3 wd_1247 zc_cl_5 ?_
  refine sm_cS (pc := 6) (n := 3) (mc := 0) (ms := 0) (zMet_str m_X9_isIna) (cr_X9_283 (X := X_X9_isSlot) (fr := 2) (frc := 1) (pc := 6) (mc := 0) (ms := 0) rfl (by decide) dX9_isSlot_6) ?_
  exact sm_zreturn (pc := 9) dX9_isSlot_9 rfl
noncomputable def f_X9_isSlota {d : Nat} : List zV → zH d → zP d → Bool := zfn 1 b_X9_isSlota
theorem m_X9_isSlota {d : Nat} : zMet (d := d) X_X9_isSlot yX9_isSlot 2 f_X9_isSlota := zmet_mk (X := X_X9_isSlot) (by decide) rfl rfl s_X9_isSlota

noncomputable def bX9_partOfa_21 {d : Nat} (P : zP d) : zK d := (xiret P)
set_option maxRecDepth 100000 in
set_option maxHeartbeats 4000000 in
theorem sbX9_partOfa_21 {d : Nat} [zGh] (P : zP d) : zSim X_X9_partOf 1 P 21 (bX9_partOfa_21 P) := by
  unfold bX9_partOfa_21
  exact sm_ireturn (pc := 21) dX9_partOf_21 rfl
noncomputable def b_X9_partOfa {d : Nat} (P : zP d) : zK d := (xild 2 (xpI 6 (xjoin (bX9_partOfa_21 P) (fun j21 => (xcmpS tgeR rlGe rhS rlS rhLt (xpI 0 j21) (xald 0 (xgfR 25 3 (xpI 6 (xild 1 (xbin zmulR (xild 2 (xbin zaddR (xalQ 0 j21)))))))))))))
set_option maxRecDepth 100000 in
set_option maxHeartbeats 4000000 in
theorem s_X9_partOfa {d : Nat} [zGh] (P : zP d) : zSim X_X9_partOf 1 P 0 (b_X9_partOfa P) := by
  unfold b_X9_partOfa
  refine sm_iload_n (pc := 0) (n := 2) dX9_partOf_0 rfl ?_
  refine sm_bipush (pc := 1) dX9_partOf_1 zc_b_6 ?_
  refine sm_joinJ (pc := 3) (pc' := 21) (j := 1) (fun G0 hG0 => @sbX9_partOfa_21 d G0 P) (fun j21 hj21 => ?_)
  refine sm_icmpS_ge (pc := 3) (tgt := 20) dX9_partOf_3 (by decide) ?_ ?_
  · skip
    refine sm_iconst (pc := 20) dX9_partOf_20 zc_i_0 ?_
    exact hj21.use
  · skip
    refine sm_aload_n (pc := 6) (n := 0) dX9_partOf_6 rfl ?_
    refine gf_X9_7 (pc := 7) rfl dX9_partOf_7 ?_
    refine sm_bipush (pc := 10) dX9_partOf_10 zc_b_6 ?_
    refine sm_iload_n (pc := 12) (n := 1) dX9_partOf_12 rfl ?_
    refine sm_imulR (pc := 13) dX9_partOf_13 ?_
    refine sm_iload_n (pc := 14) (n := 2) dX9_partOf_14 rfl ?_
    refine sm_iaddR (pc := 15) dX9_partOf_15 ?_
    refine sm_ialoadQ (pc := 16) dX9_partOf_16 ?_
    refine sm_goto (pc := 17) (tgt := 21) dX9_partOf_17 (by decide) ?_
    exact hj21.use
noncomputable def f_X9_partOfa {d : Nat} : List zV → zH d → zP d → Bool := zfn 3 b_X9_partOfa
theorem m_X9_partOfa {d : Nat} : zMet (d := d) X_X9_partOf yX9_partOf 1 f_X9_partOfa := zmet_mk (X := X_X9_partOf) (by decide) rfl rfl s_X9_partOfa

noncomputable def bX9_isRegularOnea_22 {d : Nat} (P : zP d) : zK d := (xzret P)
set_option maxRecDepth 100000 in
set_option maxHeartbeats 4000000 in
theorem sbX9_isRegularOnea_22 {d : Nat} [zGh] (P : zP d) : zSim X_X9_isRegularOne 3 P 22 (bX9_isRegularOnea_22 P) := by
  unfold bX9_isRegularOnea_22
  exact sm_zreturn (pc := 22) dX9_isRegularOne_22 rfl
noncomputable def bX9_isRegularOnea_21 {d : Nat} (P : zP d) (j22 : zK d) : zK d := (xpI 0 j22)
set_option maxRecDepth 100000 in
set_option maxHeartbeats 4000000 in
theorem sbX9_isRegularOnea_21 {d : Nat} [zGh] (P : zP d) (j22 : zK d) (hj22 : zSimJ 1 X_X9_isRegularOne 3 P 22 j22) : zSim X_X9_isRegularOne 3 P 21 (bX9_isRegularOnea_21 P j22) := by
  unfold bX9_isRegularOnea_21
  refine sm_iconst (pc := 21) dX9_isRegularOne_21 zc_i_0 ?_
  exact hj22.use
noncomputable def b_X9_isRegularOnea {d : Nat} (P : zP d) : zK d := (xald 0 (xild 1 (xcV 25 2 0 0 (zstr f_X9_isParta) (xjoin (bX9_isRegularOnea_22 P) (fun j22 => (xjoin (bX9_isRegularOnea_21 P j22) (fun j21 => (xif0S teqR rlEq rhEq rlNe rhNe j21 (xald 0 (xgfR 25 7 (xild 1 (xalQ 1 (xif0S teqR rlEq rhEq rlNe rhNe j21 (xpI 1 j22))))))))))))))
set_option maxRecDepth 100000 in
set_option maxHeartbeats 4000000 in
theorem s_X9_isRegularOnea {d : Nat} [zGh] (P : zP d) : zSim X_X9_isRegularOne 3 P 0 (b_X9_isRegularOnea P) := by
  unfold b_X9_isRegularOnea
  refine sm_aload_n (pc := 0) (n := 0) dX9_isRegularOne_0 rfl ?_
  refine sm_iload_n (pc := 1) (n := 1) dX9_isRegularOne_1 rfl ?_
  refine sm_cV (pc := 2) (ci := 9) (n := 2) (mc := 0) (ms := 0) rfl (zMet_str m_X9_isParta) (cr_X9_287 (X := X_X9_isRegularOne) (fr := 3) (frc := 2) (pc := 2) (mc := 0) (ms := 0) rfl (by decide) dX9_isRegularOne_2) ?_
  refine sm_joinJ (pc := 5) (pc' := 22) (j := 1) (fun G0 hG0 => @sbX9_isRegularOnea_22 d G0 P) (fun j22 hj22 => ?_)
  refine sm_joinJ (pc := 5) (pc' := 21) (j := 1) (fun G0 hG0 => @sbX9_isRegularOnea_21 d G0 P j22 (hj22.mv hG0 (by decide))) (fun j21 hj21 => ?_)
  refine sm_ifS_eq (pc := 5) (tgt := 21) dX9_isRegularOne_5 (by decide) ?_ ?_
  · skip
    exact hj21.use
  · skip
    refine sm_aload_n (pc := 8) (n := 0) dX9_isRegularOne_8 rfl ?_
    refine gf_X9_22 (pc := 9) rfl dX9_isRegularOne_9 ?_
    refine sm_iload_n (pc := 12) (n := 1) dX9_isRegularOne_12 rfl ?_
    refine sm_baloadQ (pc := 13) dX9_isRegularOne_13 ?_
    refine sm_ifS_eq (pc := 14) (tgt := 21) dX9_isRegularOne_14 (by decide) ?_ ?_
    · skip
      exact hj21.use
    · skip
      refine sm_iconst (pc := 17) dX9_isRegularOne_17 zc_i_1 ?_
      refine sm_goto (pc := 18) (tgt := 22) dX9_isRegularOne_18 (by decide) ?_
      exact hj22.use
noncomputable def f_X9_isRegularOnea {d : Nat} : List zV → zH d → zP d → Bool := zfn 2 b_X9_isRegularOnea
theorem m_X9_isRegularOnea {d : Nat} : zMet (d := d) X_X9_isRegularOne yX9_isRegularOne 3 f_X9_isRegularOnea := zmet_mk (X := X_X9_isRegularOne) (by decide) rfl rfl s_X9_isRegularOnea

noncomputable def lX9_foura_3 {d : Nat} (P : zP d) (r3 : zK d) : zK d := (xild 2 (xif0S tgeR rlGe rhS rlS rhLt (xald 0 (xgfR 25 45 (xald 0 (xgfI 25 46 (xild 1 (xild 2 (xbin zshr (xpI 255 (xbin zandR (xasQ 0 (fun v => v) (xald 0 (xdup (xgfI 25 46 (xpI 1 (xbin zaddR (xpfI 25 46 (xincR 2 4294967288 r3))))))))))))))))) (xvret P)))
set_option maxRecDepth 100000 in
set_option maxHeartbeats 4000000 in
theorem slX9_foura_3 {d : Nat} [zGh] (P : zP d) (r3 : zK d) (hr3 : zSimJ 1 X_X9_four 1 P 3 r3) : zSim X_X9_four 1 P 3 (lX9_foura_3 P r3) := by
  unfold lX9_foura_3
  refine sm_iload_n (pc := 3) (n := 2) dX9_four_3 rfl ?_
  refine sm_ifS_lt (pc := 4) (tgt := 39) dX9_four_4 (by decide) ?_ ?_
  · skip
    exact sm_vreturn (pc := 39) dX9_four_39 rfl
  · skip
    refine sm_aload_n (pc := 7) (n := 0) dX9_four_7 rfl ?_
    refine gf_X9_121 (pc := 8) rfl dX9_four_8 ?_
    refine sm_aload_n (pc := 11) (n := 0) dX9_four_11 rfl ?_
    refine gf_X9_347 (pc := 12) rfl dX9_four_12 ?_
    refine sm_iload_n (pc := 15) (n := 1) dX9_four_15 rfl ?_
    refine sm_iload_n (pc := 16) (n := 2) dX9_four_16 rfl ?_
    refine sm_ishr (pc := 17) dX9_four_17 ?_
    refine sm_sipush (pc := 18) dX9_four_18 zc_s_255 ?_
    refine sm_iandR (pc := 21) dX9_four_21 ?_
    refine sm_iastoreQ (pc := 22) dX9_four_22 ?_
    refine sm_aload_n (pc := 23) (n := 0) dX9_four_23 rfl ?_
    refine sm_dup (pc := 24) dX9_four_24 ?_
    refine gf_X9_347 (pc := 25) rfl dX9_four_25 ?_
    refine sm_iconst (pc := 28) dX9_four_28 zc_i_1 ?_
    refine sm_iaddR (pc := 29) dX9_four_29 ?_
    refine pf_X9_347 (pc := 30) rfl dX9_four_30 ?_
    refine sm_iincR (pc := 33) (n := 2) dX9_four_33 zc_i_m8 ?_
    refine sm_goto (pc := 36) (tgt := 3) dX9_four_36 (by decide) ?_
    exact hr3.use
noncomputable def b_X9_foura {d : Nat} (P : zP d) : zK d := (xpI 24 (xist 2 (xloop (fun r3 => (lX9_foura_3 P r3)) 100000)))
set_option maxRecDepth 100000 in
set_option maxHeartbeats 4000000 in
theorem s_X9_foura {d : Nat} [zGh] (P : zP d) : zSim X_X9_four 1 P 0 (b_X9_foura P) := by
  unfold b_X9_foura
  refine sm_bipush (pc := 0) dX9_four_0 zc_b_24 ?_
  refine sm_istore_n (pc := 2) (n := 2) dX9_four_2 rfl ?_
  exact (sm_loopJ (j := 1) (fun G1 hG1 r3 hr3 => @slX9_foura_3 d G1 P r3 hr3) _).use
noncomputable def f_X9_foura {d : Nat} : List zV → zH d → zP d → Bool := zfn 3 b_X9_foura
theorem m_X9_foura {d : Nat} : zMet (d := d) X_X9_four yX9_four 1 f_X9_foura := zmet_mk (X := X_X9_four) (by decide) rfl rfl s_X9_foura

noncomputable def b_X9_feeda {d : Nat} (P : zP d) : zK d := (xald 0 (xgfI 25 46 (xpI 20 (xbin zaddR (xpI 200 (xcmpS tleR rlS rhLe rlGt rhS (xald 0 (xild 1 (xcV 25 2 0 0 (zstr f_X9_foura) (xald 0 (xild 2 (xcV 25 2 0 0 (zstr f_X9_foura) (xald 0 (xild 3 (xcV 25 2 0 0 (zstr f_X9_foura) (xald 0 (xild 4 (xcV 25 2 0 0 (zstr f_X9_foura) (xald 0 (xild 5 (xcV 25 2 0 0 (zstr f_X9_foura) (xald 0 (xgfI 25 46 (xiret P)))))))))))))))))) (xpI 4294967295 (xiret P))))))))
set_option maxRecDepth 100000 in
set_option maxHeartbeats 4000000 in
theorem s_X9_feeda {d : Nat} [zGh] (P : zP d) : zSim X_X9_feed 2 P 0 (b_X9_feeda P) := by
  unfold b_X9_feeda
  refine sm_aload_n (pc := 0) (n := 0) dX9_feed_0 rfl ?_
  refine gf_X9_347 (pc := 1) rfl dX9_feed_1 ?_
  refine sm_bipush (pc := 4) dX9_feed_4 zc_b_20 ?_
  refine sm_iaddR (pc := 6) dX9_feed_6 ?_
  refine sm_sipush (pc := 7) dX9_feed_7 zc_s_200 ?_
  refine sm_icmpS_le (pc := 10) (tgt := 15) dX9_feed_10 (by decide) ?_ ?_
  · skip
    refine sm_aload_n (pc := 15) (n := 0) dX9_feed_15 rfl ?_
    refine sm_iload_n (pc := 16) (n := 1) dX9_feed_16 rfl ?_
    refine sm_cV (pc := 17) (ci := 9) (n := 2) (mc := 0) (ms := 0) rfl (zMet_str m_X9_foura) (cr_X9_350 (X := X_X9_feed) (fr := 2) (frc := 1) (pc := 17) (mc := 0) (ms := 0) rfl (by decide) dX9_feed_17) ?_
    refine sm_aload_n (pc := 20) (n := 0) dX9_feed_20 rfl ?_
    refine sm_iload_n (pc := 21) (n := 2) dX9_feed_21 rfl ?_
    refine sm_cV (pc := 22) (ci := 9) (n := 2) (mc := 0) (ms := 0) rfl (zMet_str m_X9_foura) (cr_X9_350 (X := X_X9_feed) (fr := 2) (frc := 1) (pc := 22) (mc := 0) (ms := 0) rfl (by decide) dX9_feed_22) ?_
    refine sm_aload_n (pc := 25) (n := 0) dX9_feed_25 rfl ?_
    refine sm_iload_n (pc := 26) (n := 3) dX9_feed_26 rfl ?_
    refine sm_cV (pc := 27) (ci := 9) (n := 2) (mc := 0) (ms := 0) rfl (zMet_str m_X9_foura) (cr_X9_350 (X := X_X9_feed) (fr := 2) (frc := 1) (pc := 27) (mc := 0) (ms := 0) rfl (by decide) dX9_feed_27) ?_
    refine sm_aload_n (pc := 30) (n := 0) dX9_feed_30 rfl ?_
    refine sm_iload (pc := 31) (n := 4) dX9_feed_31 ?_
    refine sm_cV (pc := 33) (ci := 9) (n := 2) (mc := 0) (ms := 0) rfl (zMet_str m_X9_foura) (cr_X9_350 (X := X_X9_feed) (fr := 2) (frc := 1) (pc := 33) (mc := 0) (ms := 0) rfl (by decide) dX9_feed_33) ?_
    refine sm_aload_n (pc := 36) (n := 0) dX9_feed_36 rfl ?_
    refine sm_iload (pc := 37) (n := 5) dX9_feed_37 ?_
    refine sm_cV (pc := 39) (ci := 9) (n := 2) (mc := 0) (ms := 0) rfl (zMet_str m_X9_foura) (cr_X9_350 (X := X_X9_feed) (fr := 2) (frc := 1) (pc := 39) (mc := 0) (ms := 0) rfl (by decide) dX9_feed_39) ?_
    refine sm_aload_n (pc := 42) (n := 0) dX9_feed_42 rfl ?_
    refine gf_X9_347 (pc := 43) rfl dX9_feed_43 ?_
    exact sm_ireturn (pc := 46) dX9_feed_46 rfl
  · skip
    refine sm_iconst (pc := 13) dX9_feed_13 zc_i_m1 ?_
    exact sm_ireturn (pc := 14) dX9_feed_14 rfl
noncomputable def f_X9_feeda {d : Nat} : List zV → zH d → zP d → Bool := zfn 6 b_X9_feeda
theorem m_X9_feeda {d : Nat} : zMet (d := d) X_X9_feed yX9_feed 2 f_X9_feeda := zmet_mk (X := X_X9_feed) (by decide) rfl rfl s_X9_feeda

noncomputable def b_X9_enda {d : Nat} (P : zP d) : zK d := (xild 1 (xi2lR (xpL 0 (xald 0 (xgfI 25 46 (xi2lR (xcS 3 0 0 (zstr f_X9_isIna) (xif0S teqR rlEq rhEq rlNe rhNe (xpI 0 (xzret P)) (xald 0 (xild 1 (xpfI 25 46 (xpI 1 (xzret P)))))))))))))
set_option maxRecDepth 100000 in
set_option maxHeartbeats 4000000 in
theorem s_X9_enda {d : Nat} [zGh] (P : zP d) : zSim X_X9_end 2 P 0 (b_X9_enda P) := by
  unfold b_X9_enda
  refine sm_iload_n (pc := 0) (n := 1) dX9_end_0 rfl ?_
  refine sm_i2lR (pc := 1) dX9_end_1 ?_
  refine sm_lconst (pc := 2) dX9_end_2 zc_l_0 ?_
  refine sm_aload_n (pc := 3) (n := 0) dX9_end_3 rfl ?_
  refine gf_X9_347 (pc := 4) rfl dX9_end_4 ?_
  refine sm_i2lR (pc := 7) dX9_end_7 ?_
  refine sm_cS (pc := 8) (n := 3) (mc := 0) (ms := 0) (zMet_str m_X9_isIna) (cr_X9_283 (X := X_X9_end) (fr := 2) (frc := 1) (pc := 8) (mc := 0) (ms := 0) rfl (by decide) dX9_end_8) ?_
  refine sm_ifS_ne (pc := 11) (tgt := 16) dX9_end_11 (by decide) ?_ ?_
  · skip
    refine sm_aload_n (pc := 16) (n := 0) dX9_end_16 rfl ?_
    refine sm_iload_n (pc := 17) (n := 1) dX9_end_17 rfl ?_
    refine pf_X9_347 (pc := 18) rfl dX9_end_18 ?_
    refine sm_iconst (pc := 21) dX9_end_21 zc_i_1 ?_
    exact sm_zreturn (pc := 22) dX9_end_22 rfl
  · skip
    refine sm_iconst (pc := 14) dX9_end_14 zc_i_0 ?_
    exact sm_zreturn (pc := 15) dX9_end_15 rfl
noncomputable def f_X9_enda {d : Nat} : List zV → zH d → zP d → Bool := zfn 2 b_X9_enda
theorem m_X9_enda {d : Nat} : zMet (d := d) X_X9_end yX9_end 2 f_X9_enda := zmet_mk (X := X_X9_end) (by decide) rfl rfl s_X9_enda

noncomputable def lX9_texta_95 {d : Nat} (P : zP d) (r95 : zK d) : zK d := (xild 3 (xald 0 (xgfI 25 2 (xcmpS tgeR rlGe rhS rlS rhLt (xpI 0 (xiret P)) (xald 0 (xgfR 25 43 (xpI 11 (xild 1 (xbin zmulR (xild 3 (xbin zaddR (xald 0 (xgfR 25 56 (xild 3 (xlal (xlas (xincR 3 1 r95)))))))))))))))))
set_option maxRecDepth 100000 in
set_option maxHeartbeats 4000000 in
theorem slX9_texta_95 {d : Nat} [zGh] (P : zP d) (r95 : zK d) (hr95 : zSimJ 1 X_X9_text 36 P 95 r95) : zSim X_X9_text 36 P 95 (lX9_texta_95 P r95) := by
  unfold lX9_texta_95
  refine sm_iload_n (pc := 95) (n := 3) dX9_text_95 rfl ?_
  refine sm_aload_n (pc := 96) (n := 0) dX9_text_96 rfl ?_
  refine gf_X9_153 (pc := 97) rfl dX9_text_97 ?_
  refine sm_icmpS_ge (pc := 100) (tgt := 126) dX9_text_100 (by decide) ?_ ?_
  · skip
    refine sm_iconst (pc := 126) dX9_text_126 zc_i_0 ?_
    exact sm_ireturn (pc := 127) dX9_text_127 rfl
  · skip
    refine sm_aload_n (pc := 103) (n := 0) dX9_text_103 rfl ?_
    refine gf_X9_115 (pc := 104) rfl dX9_text_104 ?_
    refine sm_bipush (pc := 107) dX9_text_107 zc_b_11 ?_
    refine sm_iload_n (pc := 109) (n := 1) dX9_text_109 rfl ?_
    refine sm_imulR (pc := 110) dX9_text_110 ?_
    refine sm_iload_n (pc := 111) (n := 3) dX9_text_111 rfl ?_
    refine sm_iaddR (pc := 112) dX9_text_112 ?_
    refine sm_aload_n (pc := 113) (n := 0) dX9_text_113 rfl ?_
    refine gf_X9_134 (pc := 114) rfl dX9_text_114 ?_
    refine sm_iload_n (pc := 117) (n := 3) dX9_text_117 rfl ?_
    refine sm_laload (pc := 118) dX9_text_118 ?_
    refine sm_lastore (pc := 119) dX9_text_119 ?_
    refine sm_iincR (pc := 120) (n := 3) dX9_text_120 zc_i_1 ?_
    refine sm_goto (pc := 123) (tgt := 95) dX9_text_123 (by decide) ?_
    exact hr95.use
noncomputable def bX9_texta_72 {d : Nat} (P : zP d) : zK d := (xald 0 (xpI 0 (xpfI 25 46 (xild 1 (xcS 1 0 0 (zstr f_X9_isSlota) (xif0S teqR rlEq rhEq rlNe rhNe (xpI 4294967294 (xiret P)) (xild 2 (xif0S teqR rlEq rhEq rlNe rhNe (xpI 4294967295 (xiret P)) (xpI 0 (xist 3 (xloop (fun r95 => (lX9_texta_95 P r95)) 100000)))))))))))
set_option maxRecDepth 100000 in
set_option maxHeartbeats 4000000 in
theorem sbX9_texta_72 {d : Nat} [zGh] (P : zP d) : zSim X_X9_text 36 P 72 (bX9_texta_72 P) := by
  unfold bX9_texta_72
  refine sm_aload_n (pc := 72) (n := 0) dX9_text_72 rfl ?_
  refine sm_iconst (pc := 73) dX9_text_73 zc_i_0 ?_
  refine pf_X9_347 (pc := 74) rfl dX9_text_74 ?_
  refine sm_iload_n (pc := 77) (n := 1) dX9_text_77 rfl ?_
  refine sm_cS (pc := 78) (n := 1) (mc := 0) (ms := 0) (zMet_str m_X9_isSlota) (cr_X9_319 (X := X_X9_text) (fr := 36) (frc := 2) (pc := 78) (mc := 0) (ms := 0) rfl (by decide) dX9_text_78) ?_
  refine sm_ifS_ne (pc := 81) (tgt := 87) dX9_text_81 (by decide) ?_ ?_
  · skip
    refine sm_iload_n (pc := 87) (n := 2) dX9_text_87 rfl ?_
    refine sm_ifS_ne (pc := 88) (tgt := 93) dX9_text_88 (by decide) ?_ ?_
    · skip
      refine sm_iconst (pc := 93) dX9_text_93 zc_i_0 ?_
      refine sm_istore_n (pc := 94) (n := 3) dX9_text_94 rfl ?_
      exact (sm_loopJ (j := 1) (fun G1 hG1 r95 hr95 => @slX9_texta_95 d G1 P r95 hr95) _).use
    · skip
      refine sm_iconst (pc := 91) dX9_text_91 zc_i_m1 ?_
      exact sm_ireturn (pc := 92) dX9_text_92 rfl
  · skip
    refine sm_bipush (pc := 84) dX9_text_84 zc_b_m2 ?_
    exact sm_ireturn (pc := 86) dX9_text_86 rfl
noncomputable def bX9_texta_49 {d : Nat} (P : zP d) : zK d := (xist 2 (xild 2 (xjoin (bX9_texta_72 P) (fun j72 => (xif0S teqR rlEq rhEq rlNe rhNe j72 (xald 0 (xcV 25 1 0 0 (zstr f_X9_see) (xpI 4294967295 (xcmpS teqR rlEq rhEq rlNe rhNe j72 (xald 0 (xpI 1 (xald 0 (xgfI 25 47 (xcV 25 3 0 0 (zstr f_X9_fails) (xist 2 j72)))))))))))))))
set_option maxRecDepth 100000 in
set_option maxHeartbeats 4000000 in
theorem sbX9_texta_49 {d : Nat} [zGh] (P : zP d) : zSim X_X9_text 36 P 49 (bX9_texta_49 P) := by
  unfold bX9_texta_49
  refine sm_istore_n (pc := 49) (n := 2) dX9_text_49 rfl ?_
  refine sm_iload_n (pc := 50) (n := 2) dX9_text_50 rfl ?_
  refine sm_joinJ (pc := 51) (pc' := 72) (j := 1) (fun G0 hG0 => @sbX9_texta_72 d G0 P) (fun j72 hj72 => ?_)
  refine sm_ifS_eq (pc := 51) (tgt := 72) dX9_text_51 (by decide) ?_ ?_
  · skip
    exact hj72.use
  · skip
    refine sm_aload_n (pc := 54) (n := 0) dX9_text_54 rfl ?_
    refine sm_cV (pc := 55) (ci := 9) (n := 1) (mc := 0) (ms := 0) rfl (zMet_str m_X9_see) (cr_X9_364 (X := X_X9_text) (fr := 36) (frc := 1) (pc := 55) (mc := 0) (ms := 0) rfl (by decide) dX9_text_55) ?_
    refine sm_iconst (pc := 58) dX9_text_58 zc_i_m1 ?_
    refine sm_icmpS_eq (pc := 59) (tgt := 72) dX9_text_59 (by decide) ?_ ?_
    · skip
      exact hj72.use
    · skip
      refine sm_aload_n (pc := 62) (n := 0) dX9_text_62 rfl ?_
      refine sm_iconst (pc := 63) dX9_text_63 zc_i_1 ?_
      refine sm_aload_n (pc := 64) (n := 0) dX9_text_64 rfl ?_
      refine gf_X9_353 (pc := 65) rfl dX9_text_65 ?_
      refine sm_cV (pc := 68) (ci := 9) (n := 3) (mc := 0) (ms := 0) rfl (zMet_str m_X9_fails) (cr_X9_377 (X := X_X9_text) (fr := 36) (frc := 1) (pc := 68) (mc := 0) (ms := 0) rfl (by decide) dX9_text_68) ?_
      refine sm_istore_n (pc := 71) (n := 2) dX9_text_71 rfl ?_
      exact hj72.use
noncomputable def bX9_texta_48 {d : Nat} (P : zP d) (j49 : zK d) : zK d := (xpI 0 j49)
set_option maxRecDepth 100000 in
set_option maxHeartbeats 4000000 in
theorem sbX9_texta_48 {d : Nat} [zGh] (P : zP d) (j49 : zK d) (hj49 : zSimJ 1 X_X9_text 36 P 49 j49) : zSim X_X9_text 36 P 48 (bX9_texta_48 P j49) := by
  unfold bX9_texta_48
  refine sm_iconst (pc := 48) dX9_text_48 zc_i_0 ?_
  exact hj49.use
noncomputable def cX9_texta_44 {d : Nat} (P : zP d) (j49 : zK d) : zK d := (xpI 1 j49)
set_option maxRecDepth 100000 in
set_option maxHeartbeats 4000000 in
theorem scX9_texta_44 {d : Nat} [zGh] (P : zP d) (j49 : zK d) (hj49 : zSimJ 1 X_X9_text 36 P 49 j49) : zSim X_X9_text 36 P 44 (cX9_texta_44 P j49) := by
  unfold cX9_texta_44
  refine sm_iconst (pc := 44) dX9_text_44 zc_i_1 ?_
  refine sm_goto (pc := 45) (tgt := 49) dX9_text_45 (by decide) ?_
  exact hj49.use
noncomputable def b_X9_texta {d : Nat} (P : zP d) : zK d := (xald 0 (xpI 0 (xpfI 25 48 (xald 0 (xpI 4294967295 (xpfI 25 49 (xald 0 (xpI 0 (xpfI 25 50 (xald 0 (xpI 0 (xpfI 25 53 (xald 0 (xpI 0 (xpfI 25 59 (xald 0 (xpI 0 (xpfI 25 47 (xild 1 (xcS 1 0 0 (zstr f_X9_isSlota) (xjoin (bX9_texta_49 P) (fun j49 => (xjoin (bX9_texta_48 P j49) (fun j48 => (xif0S teqR rlEq rhEq rlNe rhNe j48 (xald 0 (xcV 25 1 0 0 (zstr f_X9_readsSum) (xif0S teqR rlEq rhEq rlNe rhNe j48 (cX9_texta_44 P j49)))))))))))))))))))))))))))))
set_option maxRecDepth 100000 in
set_option maxHeartbeats 4000000 in
theorem s_X9_texta {d : Nat} [zGh] (P : zP d) : zSim X_X9_text 36 P 0 (b_X9_texta P) := by
  unfold b_X9_texta
  refine sm_aload_n (pc := 0) (n := 0) dX9_text_0 rfl ?_
  refine sm_iconst (pc := 1) dX9_text_1 zc_i_0 ?_
  refine pf_X9_356 (pc := 2) rfl dX9_text_2 ?_
  refine sm_aload_n (pc := 5) (n := 0) dX9_text_5 rfl ?_
  refine sm_iconst (pc := 6) dX9_text_6 zc_i_m1 ?_
  refine pf_X9_124 (pc := 7) rfl dX9_text_7 ?_
  refine sm_aload_n (pc := 10) (n := 0) dX9_text_10 rfl ?_
  refine sm_iconst (pc := 11) dX9_text_11 zc_i_0 ?_
  refine pf_X9_361 (pc := 12) rfl dX9_text_12 ?_
  refine sm_aload_n (pc := 15) (n := 0) dX9_text_15 rfl ?_
  refine sm_iconst (pc := 16) dX9_text_16 zc_i_0 ?_
  refine pf_X9_359 (pc := 17) rfl dX9_text_17 ?_
  refine sm_aload_n (pc := 20) (n := 0) dX9_text_20 rfl ?_
  refine sm_iconst (pc := 21) dX9_text_21 zc_i_0 ?_
  refine pf_X9_396 (pc := 22) rfl dX9_text_22 ?_
  refine sm_aload_n (pc := 25) (n := 0) dX9_text_25 rfl ?_
  refine sm_iconst (pc := 26) dX9_text_26 zc_i_0 ?_
  refine pf_X9_353 (pc := 27) rfl dX9_text_27 ?_
  refine sm_iload_n (pc := 30) (n := 1) dX9_text_30 rfl ?_
  refine sm_cS (pc := 31) (n := 1) (mc := 0) (ms := 0) (zMet_str m_X9_isSlota) (cr_X9_319 (X := X_X9_text) (fr := 36) (frc := 2) (pc := 31) (mc := 0) (ms := 0) rfl (by decide) dX9_text_31) ?_
  refine sm_joinJ (pc := 34) (pc' := 49) (j := 1) (fun G0 hG0 => @sbX9_texta_49 d G0 P) (fun j49 hj49 => ?_)
  refine sm_joinJ (pc := 34) (pc' := 48) (j := 1) (fun G0 hG0 => @sbX9_texta_48 d G0 P j49 (hj49.mv hG0 (by decide))) (fun j48 hj48 => ?_)
  refine sm_ifS_eq (pc := 34) (tgt := 48) dX9_text_34 (by decide) ?_ ?_
  · skip
    exact hj48.use
  · skip
    refine sm_aload_n (pc := 37) (n := 0) dX9_text_37 rfl ?_
    refine sm_cV (pc := 38) (ci := 9) (n := 1) (mc := 0) (ms := 0) rfl (zMet_str m_X9_readsSum) (cr_X9_399 (X := X_X9_text) (fr := 36) (frc := 35) (pc := 38) (mc := 0) (ms := 0) rfl (by decide) dX9_text_38) ?_
    refine sm_ifS_eq (pc := 41) (tgt := 48) dX9_text_41 (by decide) ?_ ?_
    · skip
      exact hj48.use
    · skip
      exact scX9_texta_44 P j49 hj49
noncomputable def f_X9_texta {d : Nat} : List zV → zH d → zP d → Bool := zfn 4 b_X9_texta
theorem m_X9_texta {d : Nat} : zMet (d := d) X_X9_text yX9_text 36 f_X9_texta := zmet_mk (X := X_X9_text) (by decide) rfl rfl s_X9_texta

noncomputable def bX9_faulta_61 {d : Nat} (P : zP d) : zK d := (xiret P)
set_option maxRecDepth 100000 in
set_option maxHeartbeats 4000000 in
theorem sbX9_faulta_61 {d : Nat} [zGh] (P : zP d) : zSim X_X9_fault 2 P 61 (bX9_faulta_61 P) := by
  unfold bX9_faulta_61
  exact sm_ireturn (pc := 61) dX9_fault_61 rfl
noncomputable def cX9_faulta_57 {d : Nat} (P : zP d) (j61 : zK d) : zK d := j61
set_option maxRecDepth 100000 in
set_option maxHeartbeats 4000000 in
theorem scX9_faulta_57 {d : Nat} [zGh] (P : zP d) (j61 : zK d) (hj61 : zSimJ 1 X_X9_fault 2 P 61 j61) : zSim X_X9_fault 2 P 57 (cX9_faulta_57 P j61) := by
  unfold cX9_faulta_57
  refine sm_goto (pc := 57) (tgt := 61) dX9_fault_57 (by decide) ?_
  exact hj61.use
noncomputable def b_X9_faulta {d : Nat} (P : zP d) : zK d := (xild 1 (xif0S teqR rlEq rhEq rlNe rhNe (xald 0 (xgfI 25 48 (xiret P))) (xild 1 (xpI 1 (xcmpS teqR rlEq rhEq rlNe rhNe (xald 0 (xgfI 25 49 (xiret P))) (xild 1 (xpI 2 (xcmpS teqR rlEq rhEq rlNe rhNe (xald 0 (xgfI 25 50 (xiret P))) (xild 1 (xi2lR (xpL 10 (xpI 9 (xald 0 (xgfI 25 50 (xbin zaddR (xi2lR (xcS 3 0 0 (zstr f_X9_isIna) (xjoin (bX9_faulta_61 P) (fun j61 => (xif0S teqR rlEq rhEq rlNe rhNe (xpI 4294967295 j61) (xald 0 (xgfR 25 51 (xild 1 (xpI 10 (xbin zsubR (xalQ 0 (cX9_faulta_57 P j61)))))))))))))))))))))))))))
set_option maxRecDepth 100000 in
set_option maxHeartbeats 4000000 in
theorem s_X9_faulta {d : Nat} [zGh] (P : zP d) : zSim X_X9_fault 2 P 0 (b_X9_faulta P) := by
  unfold b_X9_faulta
  refine sm_iload_n (pc := 0) (n := 1) dX9_fault_0 rfl ?_
  refine sm_ifS_ne (pc := 1) (tgt := 9) dX9_fault_1 (by decide) ?_ ?_
  · skip
    refine sm_iload_n (pc := 9) (n := 1) dX9_fault_9 rfl ?_
    refine sm_iconst (pc := 10) dX9_fault_10 zc_i_1 ?_
    refine sm_icmpS_ne (pc := 11) (tgt := 19) dX9_fault_11 (by decide) ?_ ?_
    · skip
      refine sm_iload_n (pc := 19) (n := 1) dX9_fault_19 rfl ?_
      refine sm_iconst (pc := 20) dX9_fault_20 zc_i_2 ?_
      refine sm_icmpS_ne (pc := 21) (tgt := 29) dX9_fault_21 (by decide) ?_ ?_
      · skip
        refine sm_iload_n (pc := 29) (n := 1) dX9_fault_29 rfl ?_
        refine sm_i2lR (pc := 30) dX9_fault_30 ?_
        refine sm_ldc2 (pc := 31) dX9_fault_31 wd_1427 zc_cl_10 ?_
        refine sm_bipush (pc := 34) dX9_fault_34 zc_b_9 ?_
        refine sm_aload_n (pc := 36) (n := 0) dX9_fault_36 rfl ?_
        refine gf_X9_361 (pc := 37) rfl dX9_fault_37 ?_
        refine sm_iaddR (pc := 40) dX9_fault_40 ?_
        refine sm_i2lR (pc := 41) dX9_fault_41 ?_
        refine sm_cS (pc := 42) (n := 3) (mc := 0) (ms := 0) (zMet_str m_X9_isIna) (cr_X9_283 (X := X_X9_fault) (fr := 2) (frc := 1) (pc := 42) (mc := 0) (ms := 0) rfl (by decide) dX9_fault_42) ?_
        refine sm_joinJ (pc := 45) (pc' := 61) (j := 1) (fun G0 hG0 => @sbX9_faulta_61 d G0 P) (fun j61 hj61 => ?_)
        refine sm_ifS_eq (pc := 45) (tgt := 60) dX9_fault_45 (by decide) ?_ ?_
        · skip
          refine sm_iconst (pc := 60) dX9_fault_60 zc_i_m1 ?_
          exact hj61.use
        · skip
          refine sm_aload_n (pc := 48) (n := 0) dX9_fault_48 rfl ?_
          refine gf_X9_128 (pc := 49) rfl dX9_fault_49 ?_
          refine sm_iload_n (pc := 52) (n := 1) dX9_fault_52 rfl ?_
          refine sm_bipush (pc := 53) dX9_fault_53 zc_b_10 ?_
          refine sm_isubR (pc := 55) dX9_fault_55 ?_
          refine sm_ialoadQ (pc := 56) dX9_fault_56 ?_
          exact scX9_faulta_57 P j61 hj61
      · skip
        refine sm_aload_n (pc := 24) (n := 0) dX9_fault_24 rfl ?_
        refine gf_X9_361 (pc := 25) rfl dX9_fault_25 ?_
        exact sm_ireturn (pc := 28) dX9_fault_28 rfl
    · skip
      refine sm_aload_n (pc := 14) (n := 0) dX9_fault_14 rfl ?_
      refine gf_X9_124 (pc := 15) rfl dX9_fault_15 ?_
      exact sm_ireturn (pc := 18) dX9_fault_18 rfl
  · skip
    refine sm_aload_n (pc := 4) (n := 0) dX9_fault_4 rfl ?_
    refine gf_X9_356 (pc := 5) rfl dX9_fault_5 ?_
    exact sm_ireturn (pc := 8) dX9_fault_8 rfl
noncomputable def f_X9_faulta {d : Nat} : List zV → zH d → zP d → Bool := zfn 2 b_X9_faulta
theorem m_X9_faulta {d : Nat} : zMet (d := d) X_X9_fault yX9_fault 2 f_X9_faulta := zmet_mk (X := X_X9_fault) (by decide) rfl rfl s_X9_faulta

noncomputable def bX9_partitiona_13 {d : Nat} (P : zP d) : zK d := (xpI 4294967295 (xiret P))
set_option maxRecDepth 100000 in
set_option maxHeartbeats 4000000 in
theorem sbX9_partitiona_13 {d : Nat} [zGh] (P : zP d) : zSim X_X9_partition 3 P 13 (bX9_partitiona_13 P) := by
  unfold bX9_partitiona_13
  refine sm_iconst (pc := 13) dX9_partition_13 zc_i_m1 ?_
  exact sm_ireturn (pc := 14) dX9_partition_14 rfl
noncomputable def bX9_partitiona_35 {d : Nat} (P : zP d) : zK d := (xiret P)
set_option maxRecDepth 100000 in
set_option maxHeartbeats 4000000 in
theorem sbX9_partitiona_35 {d : Nat} [zGh] (P : zP d) : zSim X_X9_partition 3 P 35 (bX9_partitiona_35 P) := by
  unfold bX9_partitiona_35
  exact sm_ireturn (pc := 35) dX9_partition_35 rfl
noncomputable def b_X9_partitiona {d : Nat} (P : zP d) : zK d := (xald 0 (xild 1 (xcV 25 2 0 0 (zstr f_X9_isParta) (xjoin (bX9_partitiona_13 P) (fun j13 => (xif0S teqR rlEq rhEq rlNe rhNe j13 (xild 2 (xpI 4294967295 (xcmpS tgeR rlGe rhS rlS rhLt (xild 2 (xpI 4294967295 (xjoin (bX9_partitiona_35 P) (fun j35 => (xcmpS teqR rlEq rhEq rlNe rhNe (xald 0 (xgfR 25 4 (xild 1 (xalQ 0 j35)))) (xald 0 (xild 1 (xild 2 (xcV 25 3 0 0 (zstr f_X9_partOfa) j35))))))))) j13)))))))))
set_option maxRecDepth 100000 in
set_option maxHeartbeats 4000000 in
theorem s_X9_partitiona {d : Nat} [zGh] (P : zP d) : zSim X_X9_partition 3 P 0 (b_X9_partitiona P) := by
  unfold b_X9_partitiona
  refine sm_aload_n (pc := 0) (n := 0) dX9_partition_0 rfl ?_
  refine sm_iload_n (pc := 1) (n := 1) dX9_partition_1 rfl ?_
  refine sm_cV (pc := 2) (ci := 9) (n := 2) (mc := 0) (ms := 0) rfl (zMet_str m_X9_isParta) (cr_X9_287 (X := X_X9_partition) (fr := 3) (frc := 2) (pc := 2) (mc := 0) (ms := 0) rfl (by decide) dX9_partition_2) ?_
  refine sm_joinJ (pc := 5) (pc' := 13) (j := 1) (fun G0 hG0 => @sbX9_partitiona_13 d G0 P) (fun j13 hj13 => ?_)
  refine sm_ifS_eq (pc := 5) (tgt := 13) dX9_partition_5 (by decide) ?_ ?_
  · skip
    exact hj13.use
  · skip
    refine sm_iload_n (pc := 8) (n := 2) dX9_partition_8 rfl ?_
    refine sm_iconst (pc := 9) dX9_partition_9 zc_i_m1 ?_
    refine sm_icmpS_ge (pc := 10) (tgt := 15) dX9_partition_10 (by decide) ?_ ?_
    · skip
      refine sm_iload_n (pc := 15) (n := 2) dX9_partition_15 rfl ?_
      refine sm_iconst (pc := 16) dX9_partition_16 zc_i_m1 ?_
      refine sm_joinJ (pc := 17) (pc' := 35) (j := 1) (fun G0 hG0 => @sbX9_partitiona_35 d G0 P) (fun j35 hj35 => ?_)
      refine sm_icmpS_ne (pc := 17) (tgt := 29) dX9_partition_17 (by decide) ?_ ?_
      · skip
        refine sm_aload_n (pc := 29) (n := 0) dX9_partition_29 rfl ?_
        refine sm_iload_n (pc := 30) (n := 1) dX9_partition_30 rfl ?_
        refine sm_iload_n (pc := 31) (n := 2) dX9_partition_31 rfl ?_
        refine sm_cV (pc := 32) (ci := 9) (n := 3) (mc := 0) (ms := 0) rfl (zMet_str m_X9_partOfa) (cr_X9_175 (X := X_X9_partition) (fr := 3) (frc := 1) (pc := 32) (mc := 0) (ms := 0) rfl (by decide) dX9_partition_32) ?_
        exact hj35.use
      · skip
        refine sm_aload_n (pc := 20) (n := 0) dX9_partition_20 rfl ?_
        refine gf_X9_13 (pc := 21) rfl dX9_partition_21 ?_
        refine sm_iload_n (pc := 24) (n := 1) dX9_partition_24 rfl ?_
        refine sm_ialoadQ (pc := 25) dX9_partition_25 ?_
        refine sm_goto (pc := 26) (tgt := 35) dX9_partition_26 (by decide) ?_
        exact hj35.use
    · skip
      exact hj13.use
noncomputable def f_X9_partitiona {d : Nat} : List zV → zH d → zP d → Bool := zfn 3 b_X9_partitiona
theorem m_X9_partitiona {d : Nat} : zMet (d := d) X_X9_partition yX9_partition 3 f_X9_partitiona := zmet_mk (X := X_X9_partition) (by decide) rfl rfl s_X9_partitiona

noncomputable def bX9_ofa_125 {d : Nat} (P : zP d) : zK d := (xpI 4294967295 (xiret P))
set_option maxRecDepth 100000 in
set_option maxHeartbeats 4000000 in
theorem sbX9_ofa_125 {d : Nat} [zGh] (P : zP d) : zSim X_X9_of 4 P 125 (bX9_ofa_125 P) := by
  unfold bX9_ofa_125
  refine sm_iconst (pc := 125) dX9_of_125 zc_i_m1 ?_
  exact sm_ireturn (pc := 126) dX9_of_126 rfl
noncomputable def bX9_ofa_56 {d : Nat} (P : zP d) : zK d := (xald 0 (xgfR 25 7 (xild 1 (xalQ 1 (xcS 1 0 0 (zstr f_X9_one) (xiret P))))))
set_option maxRecDepth 100000 in
set_option maxHeartbeats 4000000 in
theorem sbX9_ofa_56 {d : Nat} [zGh] (P : zP d) : zSim X_X9_of 4 P 56 (bX9_ofa_56 P) := by
  unfold bX9_ofa_56
  refine sm_aload_n (pc := 56) (n := 0) dX9_of_56 rfl ?_
  refine gf_X9_22 (pc := 57) rfl dX9_of_57 ?_
  refine sm_iload_n (pc := 60) (n := 1) dX9_of_60 rfl ?_
  refine sm_baloadQ (pc := 61) dX9_of_61 ?_
  refine sm_cS (pc := 62) (n := 1) (mc := 0) (ms := 0) (zMet_str m_X9_one) (cr_X9_187 (X := X_X9_of) (fr := 4) (frc := 1) (pc := 62) (mc := 0) (ms := 0) rfl (by decide) dX9_of_62) ?_
  exact sm_ireturn (pc := 65) dX9_of_65 rfl
noncomputable def bX9_ofa_66 {d : Nat} (P : zP d) : zK d := (xald 0 (xgfR 25 15 (xild 1 (xalQ 0 (xiret P)))))
set_option maxRecDepth 100000 in
set_option maxHeartbeats 4000000 in
theorem sbX9_ofa_66 {d : Nat} [zGh] (P : zP d) : zSim X_X9_of 4 P 66 (bX9_ofa_66 P) := by
  unfold bX9_ofa_66
  refine sm_aload_n (pc := 66) (n := 0) dX9_of_66 rfl ?_
  refine gf_X9_41 (pc := 67) rfl dX9_of_67 ?_
  refine sm_iload_n (pc := 70) (n := 1) dX9_of_70 rfl ?_
  refine sm_ialoadQ (pc := 71) dX9_of_71 ?_
  exact sm_ireturn (pc := 72) dX9_of_72 rfl
noncomputable def bX9_ofa_73 {d : Nat} (P : zP d) : zK d := (xald 0 (xgfR 25 17 (xild 1 (xalQ 0 (xiret P)))))
set_option maxRecDepth 100000 in
set_option maxHeartbeats 4000000 in
theorem sbX9_ofa_73 {d : Nat} [zGh] (P : zP d) : zSim X_X9_of 4 P 73 (bX9_ofa_73 P) := by
  unfold bX9_ofa_73
  refine sm_aload_n (pc := 73) (n := 0) dX9_of_73 rfl ?_
  refine gf_X9_47 (pc := 74) rfl dX9_of_74 ?_
  refine sm_iload_n (pc := 77) (n := 1) dX9_of_77 rfl ?_
  refine sm_ialoadQ (pc := 78) dX9_of_78 ?_
  exact sm_ireturn (pc := 79) dX9_of_79 rfl
noncomputable def bX9_ofa_80 {d : Nat} (P : zP d) : zK d := (xald 0 (xgfR 25 21 (xild 1 (xalQ 0 (xiret P)))))
set_option maxRecDepth 100000 in
set_option maxHeartbeats 4000000 in
theorem sbX9_ofa_80 {d : Nat} [zGh] (P : zP d) : zSim X_X9_of 4 P 80 (bX9_ofa_80 P) := by
  unfold bX9_ofa_80
  refine sm_aload_n (pc := 80) (n := 0) dX9_of_80 rfl ?_
  refine gf_X9_56 (pc := 81) rfl dX9_of_81 ?_
  refine sm_iload_n (pc := 84) (n := 1) dX9_of_84 rfl ?_
  refine sm_ialoadQ (pc := 85) dX9_of_85 ?_
  exact sm_ireturn (pc := 86) dX9_of_86 rfl
noncomputable def bX9_ofa_87 {d : Nat} (P : zP d) : zK d := (xald 0 (xgfR 25 36 (xild 1 (xalQ 0 (xiret P)))))
set_option maxRecDepth 100000 in
set_option maxHeartbeats 4000000 in
theorem sbX9_ofa_87 {d : Nat} [zGh] (P : zP d) : zSim X_X9_of 4 P 87 (bX9_ofa_87 P) := by
  unfold bX9_ofa_87
  refine sm_aload_n (pc := 87) (n := 0) dX9_of_87 rfl ?_
  refine gf_X9_93 (pc := 88) rfl dX9_of_88 ?_
  refine sm_iload_n (pc := 91) (n := 1) dX9_of_91 rfl ?_
  refine sm_ialoadQ (pc := 92) dX9_of_92 ?_
  exact sm_ireturn (pc := 93) dX9_of_93 rfl
noncomputable def bX9_ofa_94 {d : Nat} (P : zP d) : zK d := (xald 0 (xild 1 (xcV 25 2 0 0 (zstr f_X9_turned) (xiret P))))
set_option maxRecDepth 100000 in
set_option maxHeartbeats 4000000 in
theorem sbX9_ofa_94 {d : Nat} [zGh] (P : zP d) : zSim X_X9_of 4 P 94 (bX9_ofa_94 P) := by
  unfold bX9_ofa_94
  refine sm_aload_n (pc := 94) (n := 0) dX9_of_94 rfl ?_
  refine sm_iload_n (pc := 95) (n := 1) dX9_of_95 rfl ?_
  refine sm_cV (pc := 96) (ci := 9) (n := 2) (mc := 0) (ms := 0) rfl (zMet_str m_X9_turned) (cr_X9_295 (X := X_X9_of) (fr := 4) (frc := 3) (pc := 96) (mc := 0) (ms := 0) rfl (by decide) dX9_of_96) ?_
  exact sm_ireturn (pc := 99) dX9_of_99 rfl
noncomputable def bX9_ofa_114 {d : Nat} (P : zP d) : zK d := (xcS 1 0 0 (zstr f_X9_one) (xiret P))
set_option maxRecDepth 100000 in
set_option maxHeartbeats 4000000 in
theorem sbX9_ofa_114 {d : Nat} [zGh] (P : zP d) : zSim X_X9_of 4 P 114 (bX9_ofa_114 P) := by
  unfold bX9_ofa_114
  refine sm_cS (pc := 114) (n := 1) (mc := 0) (ms := 0) (zMet_str m_X9_one) (cr_X9_187 (X := X_X9_of) (fr := 4) (frc := 1) (pc := 114) (mc := 0) (ms := 0) rfl (by decide) dX9_of_114) ?_
  exact sm_ireturn (pc := 117) dX9_of_117 rfl
noncomputable def bX9_ofa_100 {d : Nat} (P : zP d) : zK d := (xald 0 (xild 1 (xcV 25 2 0 0 (zstr f_X9_turned) (xild 1 (xjoin (bX9_ofa_114 P) (fun j114 => (xcmpS teqR rlEq rhEq rlNe rhNe (xpI 1 j114) (xpI 0 j114))))))))
set_option maxRecDepth 100000 in
set_option maxHeartbeats 4000000 in
theorem sbX9_ofa_100 {d : Nat} [zGh] (P : zP d) : zSim X_X9_of 4 P 100 (bX9_ofa_100 P) := by
  unfold bX9_ofa_100
  refine sm_aload_n (pc := 100) (n := 0) dX9_of_100 rfl ?_
  refine sm_iload_n (pc := 101) (n := 1) dX9_of_101 rfl ?_
  refine sm_cV (pc := 102) (ci := 9) (n := 2) (mc := 0) (ms := 0) rfl (zMet_str m_X9_turned) (cr_X9_295 (X := X_X9_of) (fr := 4) (frc := 3) (pc := 102) (mc := 0) (ms := 0) rfl (by decide) dX9_of_102) ?_
  refine sm_iload_n (pc := 105) (n := 1) dX9_of_105 rfl ?_
  refine sm_joinJ (pc := 106) (pc' := 114) (j := 1) (fun G0 hG0 => @sbX9_ofa_114 d G0 P) (fun j114 hj114 => ?_)
  refine sm_icmpS_ne (pc := 106) (tgt := 113) dX9_of_106 (by decide) ?_ ?_
  · skip
    refine sm_iconst (pc := 113) dX9_of_113 zc_i_0 ?_
    exact hj114.use
  · skip
    refine sm_iconst (pc := 109) dX9_of_109 zc_i_1 ?_
    refine sm_goto (pc := 110) (tgt := 114) dX9_of_110 (by decide) ?_
    exact hj114.use
noncomputable def bX9_ofa_118 {d : Nat} (P : zP d) : zK d := (xald 0 (xgfR 25 10 (xild 1 (xalQ 0 (xiret P)))))
set_option maxRecDepth 100000 in
set_option maxHeartbeats 4000000 in
theorem sbX9_ofa_118 {d : Nat} [zGh] (P : zP d) : zSim X_X9_of 4 P 118 (bX9_ofa_118 P) := by
  unfold bX9_ofa_118
  refine sm_aload_n (pc := 118) (n := 0) dX9_of_118 rfl ?_
  refine gf_X9_32 (pc := 119) rfl dX9_of_119 ?_
  refine sm_iload_n (pc := 122) (n := 1) dX9_of_122 rfl ?_
  refine sm_ialoadQ (pc := 123) dX9_of_123 ?_
  exact sm_ireturn (pc := 124) dX9_of_124 rfl
noncomputable def b_X9_ofa {d : Nat} (P : zP d) : zK d := (xald 0 (xild 1 (xcV 25 2 0 0 (zstr f_X9_isParta) (xif0S teqR rlEq rhEq rlNe rhNe (xpI 4294967295 (xiret P)) (xild 2 (xtswR 7 [(bX9_ofa_56 P), (bX9_ofa_66 P), (bX9_ofa_73 P), (bX9_ofa_80 P), (bX9_ofa_87 P), (bX9_ofa_94 P), (bX9_ofa_100 P), (bX9_ofa_118 P)] (bX9_ofa_125 P)))))))
set_option maxRecDepth 100000 in
set_option maxHeartbeats 4000000 in
theorem s_X9_ofa {d : Nat} [zGh] (P : zP d) : zSim X_X9_of 4 P 0 (b_X9_ofa P) := by
  unfold b_X9_ofa
  refine sm_aload_n (pc := 0) (n := 0) dX9_of_0 rfl ?_
  refine sm_iload_n (pc := 1) (n := 1) dX9_of_1 rfl ?_
  refine sm_cV (pc := 2) (ci := 9) (n := 2) (mc := 0) (ms := 0) rfl (zMet_str m_X9_isParta) (cr_X9_287 (X := X_X9_of) (fr := 4) (frc := 2) (pc := 2) (mc := 0) (ms := 0) rfl (by decide) dX9_of_2) ?_
  refine sm_ifS_ne (pc := 5) (tgt := 10) dX9_of_5 (by decide) ?_ ?_
  · skip
    refine sm_iload_n (pc := 10) (n := 2) dX9_of_10 rfl ?_
    exact sm_tswR (pc := 11) (n := 7) (tdf := 125) [56, 66, 73, 80, 87, 94, 100, 118] rfl (by decide) dX9_of_11 rfl (by decide +kernel) (by decide) (sbX9_ofa_125 P) ⟨sbX9_ofa_56 P, sbX9_ofa_66 P, sbX9_ofa_73 P, sbX9_ofa_80 P, sbX9_ofa_87 P, sbX9_ofa_94 P, sbX9_ofa_100 P, sbX9_ofa_118 P, trivial⟩
  · skip
    refine sm_iconst (pc := 8) dX9_of_8 zc_i_m1 ?_
    exact sm_ireturn (pc := 9) dX9_of_9 rfl
noncomputable def f_X9_ofa {d : Nat} : List zV → zH d → zP d → Bool := zfn 3 b_X9_ofa
theorem m_X9_ofa {d : Nat} : zMet (d := d) X_X9_of yX9_of 4 f_X9_ofa := zmet_mk (X := X_X9_of) (by decide) rfl rfl s_X9_ofa

noncomputable def bX9_corea_13 {d : Nat} (P : zP d) : zK d := (xpI 4294967295 (xiret P))
set_option maxRecDepth 100000 in
set_option maxHeartbeats 4000000 in
theorem sbX9_corea_13 {d : Nat} [zGh] (P : zP d) : zSim X_X9_core 3 P 13 (bX9_corea_13 P) := by
  unfold bX9_corea_13
  refine sm_iconst (pc := 13) dX9_core_13 zc_i_m1 ?_
  exact sm_ireturn (pc := 14) dX9_core_14 rfl
noncomputable def bX9_corea_57 {d : Nat} (P : zP d) : zK d := (xiret P)
set_option maxRecDepth 100000 in
set_option maxHeartbeats 4000000 in
theorem sbX9_corea_57 {d : Nat} [zGh] (P : zP d) : zSim X_X9_core 3 P 57 (bX9_corea_57 P) := by
  unfold bX9_corea_57
  exact sm_ireturn (pc := 57) dX9_core_57 rfl
noncomputable def b_X9_corea {d : Nat} (P : zP d) : zK d := (xald 0 (xild 1 (xcV 25 2 0 0 (zstr f_X9_isParta) (xjoin (bX9_corea_13 P) (fun j13 => (xif0S teqR rlEq rhEq rlNe rhNe j13 (xild 2 (xpI 4294967295 (xcmpS tgeR rlGe rhS rlS rhLt (xild 2 (xpI 4294967295 (xcmpS teqR rlEq rhEq rlNe rhNe (xald 0 (xgfI 25 0 (xald 0 (xgfI 25 1 (xald 0 (xgfR 25 15 (xild 1 (xalQ 0 (xbin zmulR (xbin zsubR (xiret P))))))))))) (xild 2 (xpI 6 (xjoin (bX9_corea_57 P) (fun j57 => (xcmpS tgeR rlGe rhS rlS rhLt (xpI 0 j57) (xald 0 (xgfR 25 16 (xild 1 (xalQ 0 (xild 2 (xcS 2 0 0 (zstr f_X9_partBy) j57)))))))))))))) j13)))))))))
set_option maxRecDepth 100000 in
set_option maxHeartbeats 4000000 in
theorem s_X9_corea {d : Nat} [zGh] (P : zP d) : zSim X_X9_core 3 P 0 (b_X9_corea P) := by
  unfold b_X9_corea
  refine sm_aload_n (pc := 0) (n := 0) dX9_core_0 rfl ?_
  refine sm_iload_n (pc := 1) (n := 1) dX9_core_1 rfl ?_
  refine sm_cV (pc := 2) (ci := 9) (n := 2) (mc := 0) (ms := 0) rfl (zMet_str m_X9_isParta) (cr_X9_287 (X := X_X9_core) (fr := 3) (frc := 2) (pc := 2) (mc := 0) (ms := 0) rfl (by decide) dX9_core_2) ?_
  refine sm_joinJ (pc := 5) (pc' := 13) (j := 1) (fun G0 hG0 => @sbX9_corea_13 d G0 P) (fun j13 hj13 => ?_)
  refine sm_ifS_eq (pc := 5) (tgt := 13) dX9_core_5 (by decide) ?_ ?_
  · skip
    exact hj13.use
  · skip
    refine sm_iload_n (pc := 8) (n := 2) dX9_core_8 rfl ?_
    refine sm_iconst (pc := 9) dX9_core_9 zc_i_m1 ?_
    refine sm_icmpS_ge (pc := 10) (tgt := 15) dX9_core_10 (by decide) ?_ ?_
    · skip
      refine sm_iload_n (pc := 15) (n := 2) dX9_core_15 rfl ?_
      refine sm_iconst (pc := 16) dX9_core_16 zc_i_m1 ?_
      refine sm_icmpS_ne (pc := 17) (tgt := 37) dX9_core_17 (by decide) ?_ ?_
      · skip
        refine sm_iload_n (pc := 37) (n := 2) dX9_core_37 rfl ?_
        refine sm_bipush (pc := 38) dX9_core_38 zc_b_6 ?_
        refine sm_joinJ (pc := 40) (pc' := 57) (j := 1) (fun G0 hG0 => @sbX9_corea_57 d G0 P) (fun j57 hj57 => ?_)
        refine sm_icmpS_ge (pc := 40) (tgt := 56) dX9_core_40 (by decide) ?_ ?_
        · skip
          refine sm_iconst (pc := 56) dX9_core_56 zc_i_0 ?_
          exact hj57.use
        · skip
          refine sm_aload_n (pc := 43) (n := 0) dX9_core_43 rfl ?_
          refine gf_X9_44 (pc := 44) rfl dX9_core_44 ?_
          refine sm_iload_n (pc := 47) (n := 1) dX9_core_47 rfl ?_
          refine sm_ialoadQ (pc := 48) dX9_core_48 ?_
          refine sm_iload_n (pc := 49) (n := 2) dX9_core_49 rfl ?_
          refine sm_cS (pc := 50) (n := 2) (mc := 0) (ms := 0) (zMet_str m_X9_partBy) (cr_X9_298 (X := X_X9_core) (fr := 3) (frc := 1) (pc := 50) (mc := 0) (ms := 0) rfl (by decide) dX9_core_50) ?_
          refine sm_goto (pc := 53) (tgt := 57) dX9_core_53 (by decide) ?_
          exact hj57.use
      · skip
        refine sm_aload_n (pc := 20) (n := 0) dX9_core_20 rfl ?_
        refine gf_X9_169 (pc := 21) rfl dX9_core_21 ?_
        refine sm_aload_n (pc := 24) (n := 0) dX9_core_24 rfl ?_
        refine gf_X9_184 (pc := 25) rfl dX9_core_25 ?_
        refine sm_aload_n (pc := 28) (n := 0) dX9_core_28 rfl ?_
        refine gf_X9_41 (pc := 29) rfl dX9_core_29 ?_
        refine sm_iload_n (pc := 32) (n := 1) dX9_core_32 rfl ?_
        refine sm_ialoadQ (pc := 33) dX9_core_33 ?_
        refine sm_imulR (pc := 34) dX9_core_34 ?_
        refine sm_isubR (pc := 35) dX9_core_35 ?_
        exact sm_ireturn (pc := 36) dX9_core_36 rfl
    · skip
      exact hj13.use
noncomputable def f_X9_corea {d : Nat} : List zV → zH d → zP d → Bool := zfn 3 b_X9_corea
theorem m_X9_corea {d : Nat} : zMet (d := d) X_X9_core yX9_core 3 f_X9_corea := zmet_mk (X := X_X9_core) (by decide) rfl rfl s_X9_corea

noncomputable def bX9_hooka_38 {d : Nat} (P : zP d) : zK d := (xpI 4294967295 (xiret P))
set_option maxRecDepth 100000 in
set_option maxHeartbeats 4000000 in
theorem sbX9_hooka_38 {d : Nat} [zGh] (P : zP d) : zSim X_X9_hook 3 P 38 (bX9_hooka_38 P) := by
  unfold bX9_hooka_38
  refine sm_iconst (pc := 38) dX9_hook_38 zc_i_m1 ?_
  exact sm_ireturn (pc := 39) dX9_hook_39 rfl
noncomputable def bX9_hooka_80 {d : Nat} (P : zP d) (r55 : zK d) : zK d := (xcS 1 0 0 (zstr f_X9_one) (xbin zaddR (xist 4 (xincR 5 1 r55))))
set_option maxRecDepth 100000 in
set_option maxHeartbeats 4000000 in
theorem sbX9_hooka_80 {d : Nat} [zGh] (P : zP d) (r55 : zK d) (hr55 : zSimJ 1 X_X9_hook 3 P 55 r55) : zSim X_X9_hook 3 P 80 (bX9_hooka_80 P r55) := by
  unfold bX9_hooka_80
  refine sm_cS (pc := 80) (n := 1) (mc := 0) (ms := 0) (zMet_str m_X9_one) (cr_X9_187 (X := X_X9_hook) (fr := 3) (frc := 1) (pc := 80) (mc := 0) (ms := 0) rfl (by decide) dX9_hook_80) ?_
  refine sm_iaddR (pc := 83) dX9_hook_83 ?_
  refine sm_istore (pc := 84) (n := 4) dX9_hook_84 ?_
  refine sm_iincR (pc := 86) (n := 5) dX9_hook_86 zc_i_1 ?_
  refine sm_goto (pc := 89) (tgt := 55) dX9_hook_89 (by decide) ?_
  exact hr55.use
noncomputable def lX9_hooka_55 {d : Nat} (P : zP d) (r55 : zK d) : zK d := (xild 5 (xpI 6 (xcmpS tgeR rlGe rhS rlS rhLt (xild 4 (xiret P)) (xild 4 (xald 0 (xild 1 (xild 5 (xcV 25 3 0 0 (zstr f_X9_partOfa) (xild 3 (xjoin (bX9_hooka_80 P r55) (fun j80 => (xcmpS tleR rlS rhLe rlGt rhS (xpI 0 j80) (xpI 1 j80)))))))))))))
set_option maxRecDepth 100000 in
set_option maxHeartbeats 4000000 in
theorem slX9_hooka_55 {d : Nat} [zGh] (P : zP d) (r55 : zK d) (hr55 : zSimJ 1 X_X9_hook 3 P 55 r55) : zSim X_X9_hook 3 P 55 (lX9_hooka_55 P r55) := by
  unfold lX9_hooka_55
  refine sm_iload (pc := 55) (n := 5) dX9_hook_55 ?_
  refine sm_bipush (pc := 57) dX9_hook_57 zc_b_6 ?_
  refine sm_icmpS_ge (pc := 59) (tgt := 92) dX9_hook_59 (by decide) ?_ ?_
  · skip
    refine sm_iload (pc := 92) (n := 4) dX9_hook_92 ?_
    exact sm_ireturn (pc := 94) dX9_hook_94 rfl
  · skip
    refine sm_iload (pc := 62) (n := 4) dX9_hook_62 ?_
    refine sm_aload_n (pc := 64) (n := 0) dX9_hook_64 rfl ?_
    refine sm_iload_n (pc := 65) (n := 1) dX9_hook_65 rfl ?_
    refine sm_iload (pc := 66) (n := 5) dX9_hook_66 ?_
    refine sm_cV (pc := 68) (ci := 9) (n := 3) (mc := 0) (ms := 0) rfl (zMet_str m_X9_partOfa) (cr_X9_175 (X := X_X9_hook) (fr := 3) (frc := 1) (pc := 68) (mc := 0) (ms := 0) rfl (by decide) dX9_hook_68) ?_
    refine sm_iload_n (pc := 71) (n := 3) dX9_hook_71 rfl ?_
    refine sm_joinJ (pc := 72) (pc' := 80) (j := 1) (fun G0 hG0 => @sbX9_hooka_80 d G0 P r55 (hr55.mv hG0 (by decide))) (fun j80 hj80 => ?_)
    refine sm_icmpS_le (pc := 72) (tgt := 79) dX9_hook_72 (by decide) ?_ ?_
    · skip
      refine sm_iconst (pc := 79) dX9_hook_79 zc_i_0 ?_
      exact hj80.use
    · skip
      refine sm_iconst (pc := 75) dX9_hook_75 zc_i_1 ?_
      refine sm_goto (pc := 76) (tgt := 80) dX9_hook_76 (by decide) ?_
      exact hj80.use
noncomputable def cX9_hooka_42 {d : Nat} (P : zP d) : zK d := (xild 2 (xcV 25 3 0 0 (zstr f_X9_partOfa) (xild 3 (xbin zsubR (xist 4 (xild 2 (xpI 1 (xbin zaddR (xist 5 (xloop (fun r55 => (lX9_hooka_55 P r55)) 100000))))))))))
set_option maxRecDepth 100000 in
set_option maxHeartbeats 4000000 in
theorem scX9_hooka_42 {d : Nat} [zGh] (P : zP d) : zSim X_X9_hook 3 P 42 (cX9_hooka_42 P) := by
  unfold cX9_hooka_42
  refine sm_iload_n (pc := 42) (n := 2) dX9_hook_42 rfl ?_
  refine sm_cV (pc := 43) (ci := 9) (n := 3) (mc := 0) (ms := 0) rfl (zMet_str m_X9_partOfa) (cr_X9_175 (X := X_X9_hook) (fr := 3) (frc := 1) (pc := 43) (mc := 0) (ms := 0) rfl (by decide) dX9_hook_43) ?_
  refine sm_iload_n (pc := 46) (n := 3) dX9_hook_46 rfl ?_
  refine sm_isubR (pc := 47) dX9_hook_47 ?_
  refine sm_istore (pc := 48) (n := 4) dX9_hook_48 ?_
  refine sm_iload_n (pc := 50) (n := 2) dX9_hook_50 rfl ?_
  refine sm_iconst (pc := 51) dX9_hook_51 zc_i_1 ?_
  refine sm_iaddR (pc := 52) dX9_hook_52 ?_
  refine sm_istore (pc := 53) (n := 5) dX9_hook_53 ?_
  exact (sm_loopJ (j := 1) (fun G1 hG1 r55 hr55 => @slX9_hooka_55 d G1 P r55 hr55) _).use
noncomputable def b_X9_hooka {d : Nat} (P : zP d) : zK d := (xald 0 (xild 1 (xcV 25 2 0 0 (zstr f_X9_isParta) (xjoin (bX9_hooka_38 P) (fun j38 => (xif0S teqR rlEq rhEq rlNe rhNe j38 (xild 2 (xi2lR (xpL 0 (xpL 5 (xcS 3 0 0 (zstr f_X9_isIna) (xif0S teqR rlEq rhEq rlNe rhNe j38 (xild 3 (xi2lR (xpL 0 (xald 0 (xild 1 (xild 2 (xcV 25 3 0 0 (zstr f_X9_partOfa) (xpI 1 (xbin zsubR (xi2lR (xcS 3 0 0 (zstr f_X9_isIna) (xif0S teqR rlEq rhEq rlNe rhNe j38 (xald 0 (xild 1 (cX9_hooka_42 P)))))))))))))))))))))))))))
set_option maxRecDepth 100000 in
set_option maxHeartbeats 4000000 in
theorem s_X9_hooka {d : Nat} [zGh] (P : zP d) : zSim X_X9_hook 3 P 0 (b_X9_hooka P) := by
  unfold b_X9_hooka
  refine sm_aload_n (pc := 0) (n := 0) dX9_hook_0 rfl ?_
  refine sm_iload_n (pc := 1) (n := 1) dX9_hook_1 rfl ?_
  refine sm_cV (pc := 2) (ci := 9) (n := 2) (mc := 0) (ms := 0) rfl (zMet_str m_X9_isParta) (cr_X9_287 (X := X_X9_hook) (fr := 3) (frc := 2) (pc := 2) (mc := 0) (ms := 0) rfl (by decide) dX9_hook_2) ?_
  refine sm_joinJ (pc := 5) (pc' := 38) (j := 1) (fun G0 hG0 => @sbX9_hooka_38 d G0 P) (fun j38 hj38 => ?_)
  refine sm_ifS_eq (pc := 5) (tgt := 38) dX9_hook_5 (by decide) ?_ ?_
  · skip
    exact hj38.use
  · skip
    refine sm_iload_n (pc := 8) (n := 2) dX9_hook_8 rfl ?_
    refine sm_i2lR (pc := 9) dX9_hook_9 ?_
    refine sm_lconst (pc := 10) dX9_hook_10 zc_l_0 ?_
    refine sm_ldc2 (pc := 11) dX9_hook_11 wd_1247 zc_cl_5 ?_
    refine sm_cS (pc := 14) (n := 3) (mc := 0) (ms := 0) (zMet_str m_X9_isIna) (cr_X9_283 (X := X_X9_hook) (fr := 3) (frc := 1) (pc := 14) (mc := 0) (ms := 0) rfl (by decide) dX9_hook_14) ?_
    refine sm_ifS_eq (pc := 17) (tgt := 38) dX9_hook_17 (by decide) ?_ ?_
    · skip
      exact hj38.use
    · skip
      refine sm_iload_n (pc := 20) (n := 3) dX9_hook_20 rfl ?_
      refine sm_i2lR (pc := 21) dX9_hook_21 ?_
      refine sm_lconst (pc := 22) dX9_hook_22 zc_l_0 ?_
      refine sm_aload_n (pc := 23) (n := 0) dX9_hook_23 rfl ?_
      refine sm_iload_n (pc := 24) (n := 1) dX9_hook_24 rfl ?_
      refine sm_iload_n (pc := 25) (n := 2) dX9_hook_25 rfl ?_
      refine sm_cV (pc := 26) (ci := 9) (n := 3) (mc := 0) (ms := 0) rfl (zMet_str m_X9_partOfa) (cr_X9_175 (X := X_X9_hook) (fr := 3) (frc := 1) (pc := 26) (mc := 0) (ms := 0) rfl (by decide) dX9_hook_26) ?_
      refine sm_iconst (pc := 29) dX9_hook_29 zc_i_1 ?_
      refine sm_isubR (pc := 30) dX9_hook_30 ?_
      refine sm_i2lR (pc := 31) dX9_hook_31 ?_
      refine sm_cS (pc := 32) (n := 3) (mc := 0) (ms := 0) (zMet_str m_X9_isIna) (cr_X9_283 (X := X_X9_hook) (fr := 3) (frc := 1) (pc := 32) (mc := 0) (ms := 0) rfl (by decide) dX9_hook_32) ?_
      refine sm_ifS_ne (pc := 35) (tgt := 40) dX9_hook_35 (by decide) ?_ ?_
      · skip
        refine sm_aload_n (pc := 40) (n := 0) dX9_hook_40 rfl ?_
        refine sm_iload_n (pc := 41) (n := 1) dX9_hook_41 rfl ?_
        exact scX9_hooka_42 P
      · skip
        exact hj38.use
noncomputable def f_X9_hooka {d : Nat} : List zV → zH d → zP d → Bool := zfn 6 b_X9_hooka
theorem m_X9_hooka {d : Nat} : zMet (d := d) X_X9_hook yX9_hook 3 f_X9_hooka := zmet_mk (X := X_X9_hook) (by decide) rfl rfl s_X9_hooka

noncomputable def bX9_classOfa_91 {d : Nat} (P : zP d) : zK d := (xpI 4294967294 (xiret P))
set_option maxRecDepth 100000 in
set_option maxHeartbeats 4000000 in
theorem sbX9_classOfa_91 {d : Nat} [zGh] (P : zP d) : zSim X_X9_classOf 3 P 91 (bX9_classOfa_91 P) := by
  unfold bX9_classOfa_91
  refine sm_bipush (pc := 91) dX9_classOf_91 zc_b_m2 ?_
  exact sm_ireturn (pc := 93) dX9_classOf_93 rfl
noncomputable def bX9_classOfa_48 {d : Nat} (P : zP d) : zK d := (xald 0 (xgfR 25 5 (xild 1 (xalQ 0 (xiret P)))))
set_option maxRecDepth 100000 in
set_option maxHeartbeats 4000000 in
theorem sbX9_classOfa_48 {d : Nat} [zGh] (P : zP d) : zSim X_X9_classOf 3 P 48 (bX9_classOfa_48 P) := by
  unfold bX9_classOfa_48
  refine sm_aload_n (pc := 48) (n := 0) dX9_classOf_48 rfl ?_
  refine gf_X9_16 (pc := 49) rfl dX9_classOf_49 ?_
  refine sm_iload_n (pc := 52) (n := 1) dX9_classOf_52 rfl ?_
  refine sm_ialoadQ (pc := 53) dX9_classOf_53 ?_
  exact sm_ireturn (pc := 54) dX9_classOf_54 rfl
noncomputable def bX9_classOfa_55 {d : Nat} (P : zP d) : zK d := (xald 0 (xgfR 25 6 (xild 1 (xalQ 0 (xiret P)))))
set_option maxRecDepth 100000 in
set_option maxHeartbeats 4000000 in
theorem sbX9_classOfa_55 {d : Nat} [zGh] (P : zP d) : zSim X_X9_classOf 3 P 55 (bX9_classOfa_55 P) := by
  unfold bX9_classOfa_55
  refine sm_aload_n (pc := 55) (n := 0) dX9_classOf_55 rfl ?_
  refine gf_X9_19 (pc := 56) rfl dX9_classOf_56 ?_
  refine sm_iload_n (pc := 59) (n := 1) dX9_classOf_59 rfl ?_
  refine sm_ialoadQ (pc := 60) dX9_classOf_60 ?_
  exact sm_ireturn (pc := 61) dX9_classOf_61 rfl
noncomputable def bX9_classOfa_62 {d : Nat} (P : zP d) : zK d := (xald 0 (xgfR 25 8 (xild 1 (xalQ 1 (xcS 1 0 0 (zstr f_X9_one) (xiret P))))))
set_option maxRecDepth 100000 in
set_option maxHeartbeats 4000000 in
theorem sbX9_classOfa_62 {d : Nat} [zGh] (P : zP d) : zSim X_X9_classOf 3 P 62 (bX9_classOfa_62 P) := by
  unfold bX9_classOfa_62
  refine sm_aload_n (pc := 62) (n := 0) dX9_classOf_62 rfl ?_
  refine gf_X9_26 (pc := 63) rfl dX9_classOf_63 ?_
  refine sm_iload_n (pc := 66) (n := 1) dX9_classOf_66 rfl ?_
  refine sm_baloadQ (pc := 67) dX9_classOf_67 ?_
  refine sm_cS (pc := 68) (n := 1) (mc := 0) (ms := 0) (zMet_str m_X9_one) (cr_X9_187 (X := X_X9_classOf) (fr := 3) (frc := 1) (pc := 68) (mc := 0) (ms := 0) rfl (by decide) dX9_classOf_68) ?_
  exact sm_ireturn (pc := 71) dX9_classOf_71 rfl
noncomputable def bX9_classOfa_72 {d : Nat} (P : zP d) : zK d := (xald 0 (xgfR 25 9 (xild 1 (xalQ 0 (xiret P)))))
set_option maxRecDepth 100000 in
set_option maxHeartbeats 4000000 in
theorem sbX9_classOfa_72 {d : Nat} [zGh] (P : zP d) : zSim X_X9_classOf 3 P 72 (bX9_classOfa_72 P) := by
  unfold bX9_classOfa_72
  refine sm_aload_n (pc := 72) (n := 0) dX9_classOf_72 rfl ?_
  refine gf_X9_29 (pc := 73) rfl dX9_classOf_73 ?_
  refine sm_iload_n (pc := 76) (n := 1) dX9_classOf_76 rfl ?_
  refine sm_ialoadQ (pc := 77) dX9_classOf_77 ?_
  exact sm_ireturn (pc := 78) dX9_classOf_78 rfl
noncomputable def bX9_classOfa_79 {d : Nat} (P : zP d) : zK d := (xald 0 (xgfI 25 12 (xald 0 (xgfR 25 5 (xild 1 (xalQ 0 (xbinN zdivR (xiret P))))))))
set_option maxRecDepth 100000 in
set_option maxHeartbeats 4000000 in
theorem sbX9_classOfa_79 {d : Nat} [zGh] (P : zP d) : zSim X_X9_classOf 3 P 79 (bX9_classOfa_79 P) := by
  unfold bX9_classOfa_79
  refine sm_aload_n (pc := 79) (n := 0) dX9_classOf_79 rfl ?_
  refine gf_X9_166 (pc := 80) rfl dX9_classOf_80 ?_
  refine sm_aload_n (pc := 83) (n := 0) dX9_classOf_83 rfl ?_
  refine gf_X9_16 (pc := 84) rfl dX9_classOf_84 ?_
  refine sm_iload_n (pc := 87) (n := 1) dX9_classOf_87 rfl ?_
  refine sm_ialoadQ (pc := 88) dX9_classOf_88 ?_
  refine sm_idivR (pc := 89) dX9_classOf_89 ?_
  exact sm_ireturn (pc := 90) dX9_classOf_90 rfl
noncomputable def b_X9_classOfa {d : Nat} (P : zP d) : zK d := (xald 0 (xild 1 (xcV 25 2 0 0 (zstr f_X9_isParta) (xif0S teqR rlEq rhEq rlNe rhNe (xpI 4294967294 (xiret P)) (xild 2 (xtswR 4 [(bX9_classOfa_48 P), (bX9_classOfa_55 P), (bX9_classOfa_62 P), (bX9_classOfa_72 P), (bX9_classOfa_79 P)] (bX9_classOfa_91 P)))))))
set_option maxRecDepth 100000 in
set_option maxHeartbeats 4000000 in
theorem s_X9_classOfa {d : Nat} [zGh] (P : zP d) : zSim X_X9_classOf 3 P 0 (b_X9_classOfa P) := by
  unfold b_X9_classOfa
  refine sm_aload_n (pc := 0) (n := 0) dX9_classOf_0 rfl ?_
  refine sm_iload_n (pc := 1) (n := 1) dX9_classOf_1 rfl ?_
  refine sm_cV (pc := 2) (ci := 9) (n := 2) (mc := 0) (ms := 0) rfl (zMet_str m_X9_isParta) (cr_X9_287 (X := X_X9_classOf) (fr := 3) (frc := 2) (pc := 2) (mc := 0) (ms := 0) rfl (by decide) dX9_classOf_2) ?_
  refine sm_ifS_ne (pc := 5) (tgt := 11) dX9_classOf_5 (by decide) ?_ ?_
  · skip
    refine sm_iload_n (pc := 11) (n := 2) dX9_classOf_11 rfl ?_
    exact sm_tswR (pc := 12) (n := 4) (tdf := 91) [48, 55, 62, 72, 79] rfl (by decide) dX9_classOf_12 rfl (by decide +kernel) (by decide) (sbX9_classOfa_91 P) ⟨sbX9_classOfa_48 P, sbX9_classOfa_55 P, sbX9_classOfa_62 P, sbX9_classOfa_72 P, sbX9_classOfa_79 P, trivial⟩
  · skip
    refine sm_bipush (pc := 8) dX9_classOf_8 zc_b_m2 ?_
    exact sm_ireturn (pc := 10) dX9_classOf_10 rfl
noncomputable def f_X9_classOfa {d : Nat} : List zV → zH d → zP d → Bool := zfn 3 b_X9_classOfa
theorem m_X9_classOfa {d : Nat} : zMet (d := d) X_X9_classOf yX9_classOf 3 f_X9_classOfa := zmet_mk (X := X_X9_classOf) (by decide) rfl rfl s_X9_classOfa

noncomputable def bX9_charactera_33 {d : Nat} (P : zP d) : zK d := (xiret P)
set_option maxRecDepth 100000 in
set_option maxHeartbeats 4000000 in
theorem sbX9_charactera_33 {d : Nat} [zGh] (P : zP d) : zSim X_X9_character 3 P 33 (bX9_charactera_33 P) := by
  unfold bX9_charactera_33
  exact sm_ireturn (pc := 33) dX9_character_33 rfl
noncomputable def bX9_charactera_30 {d : Nat} (P : zP d) (j33 : zK d) : zK d := (xpI 4294966295 j33)
set_option maxRecDepth 100000 in
set_option maxHeartbeats 4000000 in
theorem sbX9_charactera_30 {d : Nat} [zGh] (P : zP d) (j33 : zK d) (hj33 : zSimJ 1 X_X9_character 3 P 33 j33) : zSim X_X9_character 3 P 30 (bX9_charactera_30 P j33) := by
  unfold bX9_charactera_30
  refine sm_sipush (pc := 30) dX9_character_30 zc_s_m1001 ?_
  exact hj33.use
noncomputable def b_X9_charactera {d : Nat} (P : zP d) : zK d := (xald 0 (xild 1 (xcV 25 2 0 0 (zstr f_X9_isParta) (xjoin (bX9_charactera_33 P) (fun j33 => (xjoin (bX9_charactera_30 P j33) (fun j30 => (xif0S teqR rlEq rhEq rlNe rhNe j30 (xald 0 (xild 2 (xcV 25 2 0 0 (zstr f_X9_isParta) (xif0S teqR rlEq rhEq rlNe rhNe j30 (xald 0 (xgfR 25 14 (xpI 11 (xild 1 (xbin zmulR (xild 2 (xbin zaddR (xalQ 0 j33))))))))))))))))))))
set_option maxRecDepth 100000 in
set_option maxHeartbeats 4000000 in
theorem s_X9_charactera {d : Nat} [zGh] (P : zP d) : zSim X_X9_character 3 P 0 (b_X9_charactera P) := by
  unfold b_X9_charactera
  refine sm_aload_n (pc := 0) (n := 0) dX9_character_0 rfl ?_
  refine sm_iload_n (pc := 1) (n := 1) dX9_character_1 rfl ?_
  refine sm_cV (pc := 2) (ci := 9) (n := 2) (mc := 0) (ms := 0) rfl (zMet_str m_X9_isParta) (cr_X9_287 (X := X_X9_character) (fr := 3) (frc := 2) (pc := 2) (mc := 0) (ms := 0) rfl (by decide) dX9_character_2) ?_
  refine sm_joinJ (pc := 5) (pc' := 33) (j := 1) (fun G0 hG0 => @sbX9_charactera_33 d G0 P) (fun j33 hj33 => ?_)
  refine sm_joinJ (pc := 5) (pc' := 30) (j := 1) (fun G0 hG0 => @sbX9_charactera_30 d G0 P j33 (hj33.mv hG0 (by decide))) (fun j30 hj30 => ?_)
  refine sm_ifS_eq (pc := 5) (tgt := 30) dX9_character_5 (by decide) ?_ ?_
  · skip
    exact hj30.use
  · skip
    refine sm_aload_n (pc := 8) (n := 0) dX9_character_8 rfl ?_
    refine sm_iload_n (pc := 9) (n := 2) dX9_character_9 rfl ?_
    refine sm_cV (pc := 10) (ci := 9) (n := 2) (mc := 0) (ms := 0) rfl (zMet_str m_X9_isParta) (cr_X9_287 (X := X_X9_character) (fr := 3) (frc := 2) (pc := 10) (mc := 0) (ms := 0) rfl (by decide) dX9_character_10) ?_
    refine sm_ifS_eq (pc := 13) (tgt := 30) dX9_character_13 (by decide) ?_ ?_
    · skip
      exact hj30.use
    · skip
      refine sm_aload_n (pc := 16) (n := 0) dX9_character_16 rfl ?_
      refine gf_X9_38 (pc := 17) rfl dX9_character_17 ?_
      refine sm_bipush (pc := 20) dX9_character_20 zc_b_11 ?_
      refine sm_iload_n (pc := 22) (n := 1) dX9_character_22 rfl ?_
      refine sm_imulR (pc := 23) dX9_character_23 ?_
      refine sm_iload_n (pc := 24) (n := 2) dX9_character_24 rfl ?_
      refine sm_iaddR (pc := 25) dX9_character_25 ?_
      refine sm_ialoadQ (pc := 26) dX9_character_26 ?_
      refine sm_goto (pc := 27) (tgt := 33) dX9_character_27 (by decide) ?_
      exact hj33.use
noncomputable def f_X9_charactera {d : Nat} : List zV → zH d → zP d → Bool := zfn 3 b_X9_charactera
theorem m_X9_charactera {d : Nat} : zMet (d := d) X_X9_character yX9_character 3 f_X9_charactera := zmet_mk (X := X_X9_character) (by decide) rfl rfl s_X9_charactera

noncomputable def bX9_modulara_51 {d : Nat} (P : zP d) : zK d := (xiret P)
set_option maxRecDepth 100000 in
set_option maxHeartbeats 4000000 in
theorem sbX9_modulara_51 {d : Nat} [zGh] (P : zP d) : zSim X_X9_modular 3 P 51 (bX9_modulara_51 P) := by
  unfold bX9_modulara_51
  exact sm_ireturn (pc := 51) dX9_modular_51 rfl
noncomputable def bX9_modulara_48 {d : Nat} (P : zP d) (j51 : zK d) : zK d := (xpI 4294966295 j51)
set_option maxRecDepth 100000 in
set_option maxHeartbeats 4000000 in
theorem sbX9_modulara_48 {d : Nat} [zGh] (P : zP d) (j51 : zK d) (hj51 : zSimJ 1 X_X9_modular 3 P 51 j51) : zSim X_X9_modular 3 P 48 (bX9_modulara_48 P j51) := by
  unfold bX9_modulara_48
  refine sm_sipush (pc := 48) dX9_modular_48 zc_s_m1001 ?_
  exact hj51.use
noncomputable def cX9_modulara_43 {d : Nat} (P : zP d) (j51 : zK d) : zK d := (xbin zaddR (xalQ 0 j51))
set_option maxRecDepth 100000 in
set_option maxHeartbeats 4000000 in
theorem scX9_modulara_43 {d : Nat} [zGh] (P : zP d) (j51 : zK d) (hj51 : zSimJ 1 X_X9_modular 3 P 51 j51) : zSim X_X9_modular 3 P 43 (cX9_modulara_43 P j51) := by
  unfold cX9_modulara_43
  refine sm_iaddR (pc := 43) dX9_modular_43 ?_
  refine sm_ialoadQ (pc := 44) dX9_modular_44 ?_
  refine sm_goto (pc := 45) (tgt := 51) dX9_modular_45 (by decide) ?_
  exact hj51.use
noncomputable def b_X9_modulara {d : Nat} (P : zP d) : zK d := (xald 0 (xild 1 (xcV 25 2 0 0 (zstr f_X9_isParta) (xjoin (bX9_modulara_51 P) (fun j51 => (xjoin (bX9_modulara_48 P j51) (fun j48 => (xif0S teqR rlEq rhEq rlNe rhNe j48 (xald 0 (xild 2 (xcV 25 2 0 0 (zstr f_X9_isParta) (xif0S teqR rlEq rhEq rlNe rhNe j48 (xald 0 (xgfR 25 7 (xild 1 (xalQ 1 (xif0S teqR rlEq rhEq rlNe rhNe j48 (xald 0 (xgfR 25 8 (xild 2 (xalQ 1 (xif0S teqR rlEq rhEq rlNe rhNe j48 (xald 0 (xgfR 25 37 (xpI 11 (xild 1 (xbin zmulR (xild 2 (cX9_modulara_43 P j51)))))))))))))))))))))))))))))
set_option maxRecDepth 100000 in
set_option maxHeartbeats 4000000 in
theorem s_X9_modulara {d : Nat} [zGh] (P : zP d) : zSim X_X9_modular 3 P 0 (b_X9_modulara P) := by
  unfold b_X9_modulara
  refine sm_aload_n (pc := 0) (n := 0) dX9_modular_0 rfl ?_
  refine sm_iload_n (pc := 1) (n := 1) dX9_modular_1 rfl ?_
  refine sm_cV (pc := 2) (ci := 9) (n := 2) (mc := 0) (ms := 0) rfl (zMet_str m_X9_isParta) (cr_X9_287 (X := X_X9_modular) (fr := 3) (frc := 2) (pc := 2) (mc := 0) (ms := 0) rfl (by decide) dX9_modular_2) ?_
  refine sm_joinJ (pc := 5) (pc' := 51) (j := 1) (fun G0 hG0 => @sbX9_modulara_51 d G0 P) (fun j51 hj51 => ?_)
  refine sm_joinJ (pc := 5) (pc' := 48) (j := 1) (fun G0 hG0 => @sbX9_modulara_48 d G0 P j51 (hj51.mv hG0 (by decide))) (fun j48 hj48 => ?_)
  refine sm_ifS_eq (pc := 5) (tgt := 48) dX9_modular_5 (by decide) ?_ ?_
  · skip
    exact hj48.use
  · skip
    refine sm_aload_n (pc := 8) (n := 0) dX9_modular_8 rfl ?_
    refine sm_iload_n (pc := 9) (n := 2) dX9_modular_9 rfl ?_
    refine sm_cV (pc := 10) (ci := 9) (n := 2) (mc := 0) (ms := 0) rfl (zMet_str m_X9_isParta) (cr_X9_287 (X := X_X9_modular) (fr := 3) (frc := 2) (pc := 10) (mc := 0) (ms := 0) rfl (by decide) dX9_modular_10) ?_
    refine sm_ifS_eq (pc := 13) (tgt := 48) dX9_modular_13 (by decide) ?_ ?_
    · skip
      exact hj48.use
    · skip
      refine sm_aload_n (pc := 16) (n := 0) dX9_modular_16 rfl ?_
      refine gf_X9_22 (pc := 17) rfl dX9_modular_17 ?_
      refine sm_iload_n (pc := 20) (n := 1) dX9_modular_20 rfl ?_
      refine sm_baloadQ (pc := 21) dX9_modular_21 ?_
      refine sm_ifS_eq (pc := 22) (tgt := 48) dX9_modular_22 (by decide) ?_ ?_
      · skip
        exact hj48.use
      · skip
        refine sm_aload_n (pc := 25) (n := 0) dX9_modular_25 rfl ?_
        refine gf_X9_26 (pc := 26) rfl dX9_modular_26 ?_
        refine sm_iload_n (pc := 29) (n := 2) dX9_modular_29 rfl ?_
        refine sm_baloadQ (pc := 30) dX9_modular_30 ?_
        refine sm_ifS_eq (pc := 31) (tgt := 48) dX9_modular_31 (by decide) ?_ ?_
        · skip
          exact hj48.use
        · skip
          refine sm_aload_n (pc := 34) (n := 0) dX9_modular_34 rfl ?_
          refine gf_X9_96 (pc := 35) rfl dX9_modular_35 ?_
          refine sm_bipush (pc := 38) dX9_modular_38 zc_b_11 ?_
          refine sm_iload_n (pc := 40) (n := 1) dX9_modular_40 rfl ?_
          refine sm_imulR (pc := 41) dX9_modular_41 ?_
          refine sm_iload_n (pc := 42) (n := 2) dX9_modular_42 rfl ?_
          exact scX9_modulara_43 P j51 hj51
noncomputable def f_X9_modulara {d : Nat} : List zV → zH d → zP d → Bool := zfn 3 b_X9_modulara
theorem m_X9_modulara {d : Nat} : zMet (d := d) X_X9_modular yX9_modular 3 f_X9_modulara := zmet_mk (X := X_X9_modular) (by decide) rfl rfl s_X9_modulara

noncomputable def bX9_projectivea_42 {d : Nat} (P : zP d) : zK d := (xiret P)
set_option maxRecDepth 100000 in
set_option maxHeartbeats 4000000 in
theorem sbX9_projectivea_42 {d : Nat} [zGh] (P : zP d) : zSim X_X9_projective 3 P 42 (bX9_projectivea_42 P) := by
  unfold bX9_projectivea_42
  exact sm_ireturn (pc := 42) dX9_projective_42 rfl
noncomputable def bX9_projectivea_39 {d : Nat} (P : zP d) (j42 : zK d) : zK d := (xpI 4294966295 j42)
set_option maxRecDepth 100000 in
set_option maxHeartbeats 4000000 in
theorem sbX9_projectivea_39 {d : Nat} [zGh] (P : zP d) (j42 : zK d) (hj42 : zSimJ 1 X_X9_projective 3 P 42 j42) : zSim X_X9_projective 3 P 39 (bX9_projectivea_39 P j42) := by
  unfold bX9_projectivea_39
  refine sm_sipush (pc := 39) dX9_projective_39 zc_s_m1001 ?_
  exact hj42.use
noncomputable def b_X9_projectivea {d : Nat} (P : zP d) : zK d := (xald 0 (xild 1 (xcV 25 2 0 0 (zstr f_X9_isParta) (xjoin (bX9_projectivea_42 P) (fun j42 => (xjoin (bX9_projectivea_39 P j42) (fun j39 => (xif0S teqR rlEq rhEq rlNe rhNe j39 (xald 0 (xild 2 (xcV 25 2 0 0 (zstr f_X9_isParta) (xif0S teqR rlEq rhEq rlNe rhNe j39 (xald 0 (xgfR 25 7 (xild 1 (xalQ 1 (xif0S teqR rlEq rhEq rlNe rhNe j39 (xald 0 (xgfR 25 40 (xpI 11 (xild 1 (xbin zmulR (xild 2 (xbin zaddR (xalQ 0 j42)))))))))))))))))))))))))
set_option maxRecDepth 100000 in
set_option maxHeartbeats 4000000 in
theorem s_X9_projectivea {d : Nat} [zGh] (P : zP d) : zSim X_X9_projective 3 P 0 (b_X9_projectivea P) := by
  unfold b_X9_projectivea
  refine sm_aload_n (pc := 0) (n := 0) dX9_projective_0 rfl ?_
  refine sm_iload_n (pc := 1) (n := 1) dX9_projective_1 rfl ?_
  refine sm_cV (pc := 2) (ci := 9) (n := 2) (mc := 0) (ms := 0) rfl (zMet_str m_X9_isParta) (cr_X9_287 (X := X_X9_projective) (fr := 3) (frc := 2) (pc := 2) (mc := 0) (ms := 0) rfl (by decide) dX9_projective_2) ?_
  refine sm_joinJ (pc := 5) (pc' := 42) (j := 1) (fun G0 hG0 => @sbX9_projectivea_42 d G0 P) (fun j42 hj42 => ?_)
  refine sm_joinJ (pc := 5) (pc' := 39) (j := 1) (fun G0 hG0 => @sbX9_projectivea_39 d G0 P j42 (hj42.mv hG0 (by decide))) (fun j39 hj39 => ?_)
  refine sm_ifS_eq (pc := 5) (tgt := 39) dX9_projective_5 (by decide) ?_ ?_
  · skip
    exact hj39.use
  · skip
    refine sm_aload_n (pc := 8) (n := 0) dX9_projective_8 rfl ?_
    refine sm_iload_n (pc := 9) (n := 2) dX9_projective_9 rfl ?_
    refine sm_cV (pc := 10) (ci := 9) (n := 2) (mc := 0) (ms := 0) rfl (zMet_str m_X9_isParta) (cr_X9_287 (X := X_X9_projective) (fr := 3) (frc := 2) (pc := 10) (mc := 0) (ms := 0) rfl (by decide) dX9_projective_10) ?_
    refine sm_ifS_eq (pc := 13) (tgt := 39) dX9_projective_13 (by decide) ?_ ?_
    · skip
      exact hj39.use
    · skip
      refine sm_aload_n (pc := 16) (n := 0) dX9_projective_16 rfl ?_
      refine gf_X9_22 (pc := 17) rfl dX9_projective_17 ?_
      refine sm_iload_n (pc := 20) (n := 1) dX9_projective_20 rfl ?_
      refine sm_baloadQ (pc := 21) dX9_projective_21 ?_
      refine sm_ifS_eq (pc := 22) (tgt := 39) dX9_projective_22 (by decide) ?_ ?_
      · skip
        exact hj39.use
      · skip
        refine sm_aload_n (pc := 25) (n := 0) dX9_projective_25 rfl ?_
        refine gf_X9_105 (pc := 26) rfl dX9_projective_26 ?_
        refine sm_bipush (pc := 29) dX9_projective_29 zc_b_11 ?_
        refine sm_iload_n (pc := 31) (n := 1) dX9_projective_31 rfl ?_
        refine sm_imulR (pc := 32) dX9_projective_32 ?_
        refine sm_iload_n (pc := 33) (n := 2) dX9_projective_33 rfl ?_
        refine sm_iaddR (pc := 34) dX9_projective_34 ?_
        refine sm_ialoadQ (pc := 35) dX9_projective_35 ?_
        refine sm_goto (pc := 36) (tgt := 42) dX9_projective_36 (by decide) ?_
        exact hj42.use
noncomputable def f_X9_projectivea {d : Nat} : List zV → zH d → zP d → Bool := zfn 3 b_X9_projectivea
theorem m_X9_projectivea {d : Nat} : zMet (d := d) X_X9_projective yX9_projective 3 f_X9_projectivea := zmet_mk (X := X_X9_projective) (by decide) rfl rfl s_X9_projectivea

noncomputable def bX9_decompositiona_36 {d : Nat} (P : zP d) : zK d := (xiret P)
set_option maxRecDepth 100000 in
set_option maxHeartbeats 4000000 in
theorem sbX9_decompositiona_36 {d : Nat} [zGh] (P : zP d) : zSim X_X9_decomposition 4 P 36 (bX9_decompositiona_36 P) := by
  unfold bX9_decompositiona_36
  exact sm_ireturn (pc := 36) dX9_decomposition_36 rfl
noncomputable def bX9_decompositiona_35 {d : Nat} (P : zP d) (j36 : zK d) : zK d := (xpI 4294967295 j36)
set_option maxRecDepth 100000 in
set_option maxHeartbeats 4000000 in
theorem sbX9_decompositiona_35 {d : Nat} [zGh] (P : zP d) (j36 : zK d) (hj36 : zSimJ 1 X_X9_decomposition 4 P 36 j36) : zSim X_X9_decomposition 4 P 35 (bX9_decompositiona_35 P j36) := by
  unfold bX9_decompositiona_35
  refine sm_iconst (pc := 35) dX9_decomposition_35 zc_i_m1 ?_
  exact hj36.use
noncomputable def b_X9_decompositiona {d : Nat} (P : zP d) : zK d := (xald 0 (xild 1 (xcV 25 2 0 0 (zstr f_X9_isParta) (xjoin (bX9_decompositiona_36 P) (fun j36 => (xjoin (bX9_decompositiona_35 P j36) (fun j35 => (xif0S teqR rlEq rhEq rlNe rhNe j35 (xald 0 (xild 2 (xcV 25 2 0 0 (zstr f_X9_isRegularOnea) (xif0S teqR rlEq rhEq rlNe rhNe j35 (xald 0 (xgfR 25 38 (xpI 11 (xild 1 (xbin zmulR (xald 0 (xgfR 25 10 (xild 2 (xalQ 0 (xbin zaddR (xalQ 0 j36)))))))))))))))))))))))
set_option maxRecDepth 100000 in
set_option maxHeartbeats 4000000 in
theorem s_X9_decompositiona {d : Nat} [zGh] (P : zP d) : zSim X_X9_decomposition 4 P 0 (b_X9_decompositiona P) := by
  unfold b_X9_decompositiona
  refine sm_aload_n (pc := 0) (n := 0) dX9_decomposition_0 rfl ?_
  refine sm_iload_n (pc := 1) (n := 1) dX9_decomposition_1 rfl ?_
  refine sm_cV (pc := 2) (ci := 9) (n := 2) (mc := 0) (ms := 0) rfl (zMet_str m_X9_isParta) (cr_X9_287 (X := X_X9_decomposition) (fr := 4) (frc := 2) (pc := 2) (mc := 0) (ms := 0) rfl (by decide) dX9_decomposition_2) ?_
  refine sm_joinJ (pc := 5) (pc' := 36) (j := 1) (fun G0 hG0 => @sbX9_decompositiona_36 d G0 P) (fun j36 hj36 => ?_)
  refine sm_joinJ (pc := 5) (pc' := 35) (j := 1) (fun G0 hG0 => @sbX9_decompositiona_35 d G0 P j36 (hj36.mv hG0 (by decide))) (fun j35 hj35 => ?_)
  refine sm_ifS_eq (pc := 5) (tgt := 35) dX9_decomposition_5 (by decide) ?_ ?_
  · skip
    exact hj35.use
  · skip
    refine sm_aload_n (pc := 8) (n := 0) dX9_decomposition_8 rfl ?_
    refine sm_iload_n (pc := 9) (n := 2) dX9_decomposition_9 rfl ?_
    refine sm_cV (pc := 10) (ci := 9) (n := 2) (mc := 0) (ms := 0) rfl (zMet_str m_X9_isRegularOnea) (cr_X9_303 (X := X_X9_decomposition) (fr := 4) (frc := 3) (pc := 10) (mc := 0) (ms := 0) rfl (by decide) dX9_decomposition_10) ?_
    refine sm_ifS_eq (pc := 13) (tgt := 35) dX9_decomposition_13 (by decide) ?_ ?_
    · skip
      exact hj35.use
    · skip
      refine sm_aload_n (pc := 16) (n := 0) dX9_decomposition_16 rfl ?_
      refine gf_X9_99 (pc := 17) rfl dX9_decomposition_17 ?_
      refine sm_bipush (pc := 20) dX9_decomposition_20 zc_b_11 ?_
      refine sm_iload_n (pc := 22) (n := 1) dX9_decomposition_22 rfl ?_
      refine sm_imulR (pc := 23) dX9_decomposition_23 ?_
      refine sm_aload_n (pc := 24) (n := 0) dX9_decomposition_24 rfl ?_
      refine gf_X9_32 (pc := 25) rfl dX9_decomposition_25 ?_
      refine sm_iload_n (pc := 28) (n := 2) dX9_decomposition_28 rfl ?_
      refine sm_ialoadQ (pc := 29) dX9_decomposition_29 ?_
      refine sm_iaddR (pc := 30) dX9_decomposition_30 ?_
      refine sm_ialoadQ (pc := 31) dX9_decomposition_31 ?_
      refine sm_goto (pc := 32) (tgt := 36) dX9_decomposition_32 (by decide) ?_
      exact hj36.use
noncomputable def f_X9_decompositiona {d : Nat} : List zV → zH d → zP d → Bool := zfn 3 b_X9_decompositiona
theorem m_X9_decompositiona {d : Nat} : zMet (d := d) X_X9_decomposition yX9_decomposition 4 f_X9_decompositiona := zmet_mk (X := X_X9_decomposition) (by decide) rfl rfl s_X9_decompositiona

noncomputable def bX9_cartana_26 {d : Nat} (P : zP d) : zK d := (xiret P)
set_option maxRecDepth 100000 in
set_option maxHeartbeats 4000000 in
theorem sbX9_cartana_26 {d : Nat} [zGh] (P : zP d) : zSim X_X9_cartan 4 P 26 (bX9_cartana_26 P) := by
  unfold bX9_cartana_26
  exact sm_ireturn (pc := 26) dX9_cartan_26 rfl
noncomputable def bX9_cartana_25 {d : Nat} (P : zP d) (j26 : zK d) : zK d := (xpI 4294967295 j26)
set_option maxRecDepth 100000 in
set_option maxHeartbeats 4000000 in
theorem sbX9_cartana_25 {d : Nat} [zGh] (P : zP d) (j26 : zK d) (hj26 : zSimJ 1 X_X9_cartan 4 P 26 j26) : zSim X_X9_cartan 4 P 25 (bX9_cartana_25 P j26) := by
  unfold bX9_cartana_25
  refine sm_iconst (pc := 25) dX9_cartan_25 zc_i_m1 ?_
  exact hj26.use
noncomputable def b_X9_cartana {d : Nat} (P : zP d) : zK d := (xald 0 (xild 1 (xcV 25 2 0 0 (zstr f_X9_isRegularOnea) (xjoin (bX9_cartana_26 P) (fun j26 => (xjoin (bX9_cartana_25 P j26) (fun j25 => (xif0S teqR rlEq rhEq rlNe rhNe j25 (xald 0 (xild 2 (xcV 25 2 0 0 (zstr f_X9_isRegularOnea) (xif0S teqR rlEq rhEq rlNe rhNe j25 (xald 0 (xild 1 (xild 2 (xcV 25 3 0 0 (zstr f_X9_cartanOf) j26))))))))))))))))
set_option maxRecDepth 100000 in
set_option maxHeartbeats 4000000 in
theorem s_X9_cartana {d : Nat} [zGh] (P : zP d) : zSim X_X9_cartan 4 P 0 (b_X9_cartana P) := by
  unfold b_X9_cartana
  refine sm_aload_n (pc := 0) (n := 0) dX9_cartan_0 rfl ?_
  refine sm_iload_n (pc := 1) (n := 1) dX9_cartan_1 rfl ?_
  refine sm_cV (pc := 2) (ci := 9) (n := 2) (mc := 0) (ms := 0) rfl (zMet_str m_X9_isRegularOnea) (cr_X9_303 (X := X_X9_cartan) (fr := 4) (frc := 3) (pc := 2) (mc := 0) (ms := 0) rfl (by decide) dX9_cartan_2) ?_
  refine sm_joinJ (pc := 5) (pc' := 26) (j := 1) (fun G0 hG0 => @sbX9_cartana_26 d G0 P) (fun j26 hj26 => ?_)
  refine sm_joinJ (pc := 5) (pc' := 25) (j := 1) (fun G0 hG0 => @sbX9_cartana_25 d G0 P j26 (hj26.mv hG0 (by decide))) (fun j25 hj25 => ?_)
  refine sm_ifS_eq (pc := 5) (tgt := 25) dX9_cartan_5 (by decide) ?_ ?_
  · skip
    exact hj25.use
  · skip
    refine sm_aload_n (pc := 8) (n := 0) dX9_cartan_8 rfl ?_
    refine sm_iload_n (pc := 9) (n := 2) dX9_cartan_9 rfl ?_
    refine sm_cV (pc := 10) (ci := 9) (n := 2) (mc := 0) (ms := 0) rfl (zMet_str m_X9_isRegularOnea) (cr_X9_303 (X := X_X9_cartan) (fr := 4) (frc := 3) (pc := 10) (mc := 0) (ms := 0) rfl (by decide) dX9_cartan_10) ?_
    refine sm_ifS_eq (pc := 13) (tgt := 25) dX9_cartan_13 (by decide) ?_ ?_
    · skip
      exact hj25.use
    · skip
      refine sm_aload_n (pc := 16) (n := 0) dX9_cartan_16 rfl ?_
      refine sm_iload_n (pc := 17) (n := 1) dX9_cartan_17 rfl ?_
      refine sm_iload_n (pc := 18) (n := 2) dX9_cartan_18 rfl ?_
      refine sm_cV (pc := 19) (ci := 9) (n := 3) (mc := 0) (ms := 0) rfl (zMet_str m_X9_cartanOf) (cr_X9_306 (X := X_X9_cartan) (fr := 4) (frc := 1) (pc := 19) (mc := 0) (ms := 0) rfl (by decide) dX9_cartan_19) ?_
      refine sm_goto (pc := 22) (tgt := 26) dX9_cartan_22 (by decide) ?_
      exact hj26.use
noncomputable def f_X9_cartana {d : Nat} : List zV → zH d → zP d → Bool := zfn 3 b_X9_cartana
theorem m_X9_cartana {d : Nat} : zMet (d := d) X_X9_cartan yX9_cartan 4 f_X9_cartana := zmet_mk (X := X_X9_cartan) (by decide) rfl rfl s_X9_cartana

noncomputable def bX9_tableaua_71 {d : Nat} (P : zP d) : zK d := (xpI 4294967295 (xiret P))
set_option maxRecDepth 100000 in
set_option maxHeartbeats 4000000 in
theorem sbX9_tableaua_71 {d : Nat} [zGh] (P : zP d) : zSim X_X9_tableau 3 P 71 (bX9_tableaua_71 P) := by
  unfold bX9_tableaua_71
  refine sm_iconst (pc := 71) dX9_tableau_71 zc_i_m1 ?_
  exact sm_ireturn (pc := 72) dX9_tableau_72 rfl
noncomputable def cX9_tableaua_91 {d : Nat} (P : zP d) : zK d := (xbin zaddR (xbin zmulR (xald 0 (xild 3 (xild 4 (xcV 25 3 0 0 (zstr f_X9_cellAt) (xbin zaddR (xalQ 0 (xiret P)))))))))
set_option maxRecDepth 100000 in
set_option maxHeartbeats 4000000 in
theorem scX9_tableaua_91 {d : Nat} [zGh] (P : zP d) : zSim X_X9_tableau 3 P 91 (cX9_tableaua_91 P) := by
  unfold cX9_tableaua_91
  refine sm_iaddR (pc := 91) dX9_tableau_91 ?_
  refine sm_imulR (pc := 92) dX9_tableau_92 ?_
  refine sm_aload_n (pc := 93) (n := 0) dX9_tableau_93 rfl ?_
  refine sm_iload_n (pc := 94) (n := 3) dX9_tableau_94 rfl ?_
  refine sm_iload (pc := 95) (n := 4) dX9_tableau_95 ?_
  refine sm_cV (pc := 97) (ci := 9) (n := 3) (mc := 0) (ms := 0) rfl (zMet_str m_X9_cellAt) (cr_X9_214 (X := X_X9_tableau) (fr := 3) (frc := 2) (pc := 97) (mc := 0) (ms := 0) rfl (by decide) dX9_tableau_97) ?_
  refine sm_iaddR (pc := 100) dX9_tableau_100 ?_
  refine sm_ialoadQ (pc := 101) dX9_tableau_101 ?_
  exact sm_ireturn (pc := 102) dX9_tableau_102 rfl
noncomputable def cX9_tableaua_49 {d : Nat} (P : zP d) (j71 : zK d) : zK d := (xif0S teqR rlEq rhEq rlNe rhNe j71 (xild 4 (xi2lR (xpL 0 (xald 0 (xild 1 (xild 3 (xcV 25 3 0 0 (zstr f_X9_partOfa) (xpI 1 (xbin zsubR (xi2lR (xcS 3 0 0 (zstr f_X9_isIna) (xif0S teqR rlEq rhEq rlNe rhNe j71 (xald 0 (xild 1 (xpfI 25 25 (xald 0 (xgfR 25 22 (xpI 6 (xald 0 (xgfR 25 20 (xild 1 (xalQ 0 (xild 2 (cX9_tableaua_91 P)))))))))))))))))))))))))
set_option maxRecDepth 100000 in
set_option maxHeartbeats 4000000 in
theorem scX9_tableaua_49 {d : Nat} [zGh] (P : zP d) (j71 : zK d) (hj71 : zSimJ 1 X_X9_tableau 3 P 71 j71) : zSim X_X9_tableau 3 P 49 (cX9_tableaua_49 P j71) := by
  unfold cX9_tableaua_49
  refine sm_ifS_eq (pc := 49) (tgt := 71) dX9_tableau_49 (by decide) ?_ ?_
  · skip
    exact hj71.use
  · skip
    refine sm_iload (pc := 52) (n := 4) dX9_tableau_52 ?_
    refine sm_i2lR (pc := 54) dX9_tableau_54 ?_
    refine sm_lconst (pc := 55) dX9_tableau_55 zc_l_0 ?_
    refine sm_aload_n (pc := 56) (n := 0) dX9_tableau_56 rfl ?_
    refine sm_iload_n (pc := 57) (n := 1) dX9_tableau_57 rfl ?_
    refine sm_iload_n (pc := 58) (n := 3) dX9_tableau_58 rfl ?_
    refine sm_cV (pc := 59) (ci := 9) (n := 3) (mc := 0) (ms := 0) rfl (zMet_str m_X9_partOfa) (cr_X9_175 (X := X_X9_tableau) (fr := 3) (frc := 1) (pc := 59) (mc := 0) (ms := 0) rfl (by decide) dX9_tableau_59) ?_
    refine sm_iconst (pc := 62) dX9_tableau_62 zc_i_1 ?_
    refine sm_isubR (pc := 63) dX9_tableau_63 ?_
    refine sm_i2lR (pc := 64) dX9_tableau_64 ?_
    refine sm_cS (pc := 65) (n := 3) (mc := 0) (ms := 0) (zMet_str m_X9_isIna) (cr_X9_283 (X := X_X9_tableau) (fr := 3) (frc := 1) (pc := 65) (mc := 0) (ms := 0) rfl (by decide) dX9_tableau_65) ?_
    refine sm_ifS_ne (pc := 68) (tgt := 73) dX9_tableau_68 (by decide) ?_ ?_
    · skip
      refine sm_aload_n (pc := 73) (n := 0) dX9_tableau_73 rfl ?_
      refine sm_iload_n (pc := 74) (n := 1) dX9_tableau_74 rfl ?_
      refine pf_X9_205 (pc := 75) rfl dX9_tableau_75 ?_
      refine sm_aload_n (pc := 78) (n := 0) dX9_tableau_78 rfl ?_
      refine gf_X9_59 (pc := 79) rfl dX9_tableau_79 ?_
      refine sm_bipush (pc := 82) dX9_tableau_82 zc_b_6 ?_
      refine sm_aload_n (pc := 84) (n := 0) dX9_tableau_84 rfl ?_
      refine gf_X9_53 (pc := 85) rfl dX9_tableau_85 ?_
      refine sm_iload_n (pc := 88) (n := 1) dX9_tableau_88 rfl ?_
      refine sm_ialoadQ (pc := 89) dX9_tableau_89 ?_
      refine sm_iload_n (pc := 90) (n := 2) dX9_tableau_90 rfl ?_
      exact scX9_tableaua_91 P
    · skip
      exact hj71.use
noncomputable def b_X9_tableaua {d : Nat} (P : zP d) : zK d := (xald 0 (xild 1 (xcV 25 2 0 0 (zstr f_X9_isParta) (xif0S teqR rlEq rhEq rlNe rhNe (xpI 4294967295 (xiret P)) (xild 3 (xpI 4294967295 (xcmpS teqR rlEq rhEq rlNe rhNe (xald 0 (xgfR 25 21 (xild 1 (xalQ 0 (xiret P))))) (xild 2 (xi2lR (xpL 0 (xald 0 (xgfR 25 21 (xild 1 (xalQ 0 (xpI 1 (xbin zsubR (xi2lR (xcS 3 0 0 (zstr f_X9_isIna) (xjoin (bX9_tableaua_71 P) (fun j71 => (xif0S teqR rlEq rhEq rlNe rhNe j71 (xild 3 (xi2lR (xpL 0 (xpL 5 (xcS 3 0 0 (zstr f_X9_isIna) (cX9_tableaua_49 P j71)))))))))))))))))))))))))))
set_option maxRecDepth 100000 in
set_option maxHeartbeats 4000000 in
theorem s_X9_tableaua {d : Nat} [zGh] (P : zP d) : zSim X_X9_tableau 3 P 0 (b_X9_tableaua P) := by
  unfold b_X9_tableaua
  refine sm_aload_n (pc := 0) (n := 0) dX9_tableau_0 rfl ?_
  refine sm_iload_n (pc := 1) (n := 1) dX9_tableau_1 rfl ?_
  refine sm_cV (pc := 2) (ci := 9) (n := 2) (mc := 0) (ms := 0) rfl (zMet_str m_X9_isParta) (cr_X9_287 (X := X_X9_tableau) (fr := 3) (frc := 2) (pc := 2) (mc := 0) (ms := 0) rfl (by decide) dX9_tableau_2) ?_
  refine sm_ifS_ne (pc := 5) (tgt := 10) dX9_tableau_5 (by decide) ?_ ?_
  · skip
    refine sm_iload_n (pc := 10) (n := 3) dX9_tableau_10 rfl ?_
    refine sm_iconst (pc := 11) dX9_tableau_11 zc_i_m1 ?_
    refine sm_icmpS_ne (pc := 12) (tgt := 22) dX9_tableau_12 (by decide) ?_ ?_
    · skip
      refine sm_iload_n (pc := 22) (n := 2) dX9_tableau_22 rfl ?_
      refine sm_i2lR (pc := 23) dX9_tableau_23 ?_
      refine sm_lconst (pc := 24) dX9_tableau_24 zc_l_0 ?_
      refine sm_aload_n (pc := 25) (n := 0) dX9_tableau_25 rfl ?_
      refine gf_X9_56 (pc := 26) rfl dX9_tableau_26 ?_
      refine sm_iload_n (pc := 29) (n := 1) dX9_tableau_29 rfl ?_
      refine sm_ialoadQ (pc := 30) dX9_tableau_30 ?_
      refine sm_iconst (pc := 31) dX9_tableau_31 zc_i_1 ?_
      refine sm_isubR (pc := 32) dX9_tableau_32 ?_
      refine sm_i2lR (pc := 33) dX9_tableau_33 ?_
      refine sm_cS (pc := 34) (n := 3) (mc := 0) (ms := 0) (zMet_str m_X9_isIna) (cr_X9_283 (X := X_X9_tableau) (fr := 3) (frc := 1) (pc := 34) (mc := 0) (ms := 0) rfl (by decide) dX9_tableau_34) ?_
      refine sm_joinJ (pc := 37) (pc' := 71) (j := 1) (fun G0 hG0 => @sbX9_tableaua_71 d G0 P) (fun j71 hj71 => ?_)
      refine sm_ifS_eq (pc := 37) (tgt := 71) dX9_tableau_37 (by decide) ?_ ?_
      · skip
        exact hj71.use
      · skip
        refine sm_iload_n (pc := 40) (n := 3) dX9_tableau_40 rfl ?_
        refine sm_i2lR (pc := 41) dX9_tableau_41 ?_
        refine sm_lconst (pc := 42) dX9_tableau_42 zc_l_0 ?_
        refine sm_ldc2 (pc := 43) dX9_tableau_43 wd_1247 zc_cl_5 ?_
        refine sm_cS (pc := 46) (n := 3) (mc := 0) (ms := 0) (zMet_str m_X9_isIna) (cr_X9_283 (X := X_X9_tableau) (fr := 3) (frc := 1) (pc := 46) (mc := 0) (ms := 0) rfl (by decide) dX9_tableau_46) ?_
        exact scX9_tableaua_49 P j71 hj71
    · skip
      refine sm_aload_n (pc := 15) (n := 0) dX9_tableau_15 rfl ?_
      refine gf_X9_56 (pc := 16) rfl dX9_tableau_16 ?_
      refine sm_iload_n (pc := 19) (n := 1) dX9_tableau_19 rfl ?_
      refine sm_ialoadQ (pc := 20) dX9_tableau_20 ?_
      exact sm_ireturn (pc := 21) dX9_tableau_21 rfl
  · skip
    refine sm_iconst (pc := 8) dX9_tableau_8 zc_i_m1 ?_
    exact sm_ireturn (pc := 9) dX9_tableau_9 rfl
noncomputable def f_X9_tableaua {d : Nat} : List zV → zH d → zP d → Bool := zfn 5 b_X9_tableaua
theorem m_X9_tableaua {d : Nat} : zMet (d := d) X_X9_tableau yX9_tableau 3 f_X9_tableaua := zmet_mk (X := X_X9_tableau) (by decide) rfl rfl s_X9_tableaua

noncomputable def bX9_grama_67 {d : Nat} (P : zP d) : zK d := (xiret P)
set_option maxRecDepth 100000 in
set_option maxHeartbeats 4000000 in
theorem sbX9_grama_67 {d : Nat} [zGh] (P : zP d) : zSim X_X9_gram 3 P 67 (bX9_grama_67 P) := by
  unfold bX9_grama_67
  exact sm_ireturn (pc := 67) dX9_gram_67 rfl
noncomputable def bX9_grama_64 {d : Nat} (P : zP d) (j67 : zK d) : zK d := (xpI 4294966295 j67)
set_option maxRecDepth 100000 in
set_option maxHeartbeats 4000000 in
theorem sbX9_grama_64 {d : Nat} [zGh] (P : zP d) (j67 : zK d) (hj67 : zSimJ 1 X_X9_gram 3 P 67 j67) : zSim X_X9_gram 3 P 64 (bX9_grama_64 P j67) := by
  unfold bX9_grama_64
  refine sm_sipush (pc := 64) dX9_gram_64 zc_s_m1001 ?_
  exact hj67.use
noncomputable def cX9_grama_36 {d : Nat} (P : zP d) (j64 : zK d) (j67 : zK d) : zK d := (xbin zsubR (xi2lR (xcS 3 0 0 (zstr f_X9_isIna) (xif0S teqR rlEq rhEq rlNe rhNe j64 (xald 0 (xgfR 25 35 (xpI 256 (xild 1 (xbin zmulR (xpI 16 (xild 2 (xbin zmulR (xbin zaddR (xild 3 (xbin zaddR (xalQ 0 j67))))))))))))))))
set_option maxRecDepth 100000 in
set_option maxHeartbeats 4000000 in
theorem scX9_grama_36 {d : Nat} [zGh] (P : zP d) (j64 : zK d) (j67 : zK d) (hj64 : zSimJ 1 X_X9_gram 3 P 64 j64) (hj67 : zSimJ 1 X_X9_gram 3 P 67 j67) : zSim X_X9_gram 3 P 36 (cX9_grama_36 P j64 j67) := by
  unfold cX9_grama_36
  refine sm_isubR (pc := 36) dX9_gram_36 ?_
  refine sm_i2lR (pc := 37) dX9_gram_37 ?_
  refine sm_cS (pc := 38) (n := 3) (mc := 0) (ms := 0) (zMet_str m_X9_isIna) (cr_X9_283 (X := X_X9_gram) (fr := 3) (frc := 1) (pc := 38) (mc := 0) (ms := 0) rfl (by decide) dX9_gram_38) ?_
  refine sm_ifS_eq (pc := 41) (tgt := 64) dX9_gram_41 (by decide) ?_ ?_
  · skip
    exact hj64.use
  · skip
    refine sm_aload_n (pc := 44) (n := 0) dX9_gram_44 rfl ?_
    refine gf_X9_90 (pc := 45) rfl dX9_gram_45 ?_
    refine sm_sipush (pc := 48) dX9_gram_48 zc_s_256 ?_
    refine sm_iload_n (pc := 51) (n := 1) dX9_gram_51 rfl ?_
    refine sm_imulR (pc := 52) dX9_gram_52 ?_
    refine sm_bipush (pc := 53) dX9_gram_53 zc_b_16 ?_
    refine sm_iload_n (pc := 55) (n := 2) dX9_gram_55 rfl ?_
    refine sm_imulR (pc := 56) dX9_gram_56 ?_
    refine sm_iaddR (pc := 57) dX9_gram_57 ?_
    refine sm_iload_n (pc := 58) (n := 3) dX9_gram_58 rfl ?_
    refine sm_iaddR (pc := 59) dX9_gram_59 ?_
    refine sm_ialoadQ (pc := 60) dX9_gram_60 ?_
    refine sm_goto (pc := 61) (tgt := 67) dX9_gram_61 (by decide) ?_
    exact hj67.use
noncomputable def b_X9_grama {d : Nat} (P : zP d) : zK d := (xald 0 (xild 1 (xcV 25 2 0 0 (zstr f_X9_isParta) (xjoin (bX9_grama_67 P) (fun j67 => (xjoin (bX9_grama_64 P j67) (fun j64 => (xif0S teqR rlEq rhEq rlNe rhNe j64 (xild 2 (xi2lR (xpL 0 (xald 0 (xgfR 25 21 (xild 1 (xalQ 0 (xpI 1 (xbin zsubR (xi2lR (xcS 3 0 0 (zstr f_X9_isIna) (xif0S teqR rlEq rhEq rlNe rhNe j64 (xild 3 (xi2lR (xpL 0 (xald 0 (xgfR 25 21 (xild 1 (xalQ 0 (xpI 1 (cX9_grama_36 P j64 j67)))))))))))))))))))))))))))))
set_option maxRecDepth 100000 in
set_option maxHeartbeats 4000000 in
theorem s_X9_grama {d : Nat} [zGh] (P : zP d) : zSim X_X9_gram 3 P 0 (b_X9_grama P) := by
  unfold b_X9_grama
  refine sm_aload_n (pc := 0) (n := 0) dX9_gram_0 rfl ?_
  refine sm_iload_n (pc := 1) (n := 1) dX9_gram_1 rfl ?_
  refine sm_cV (pc := 2) (ci := 9) (n := 2) (mc := 0) (ms := 0) rfl (zMet_str m_X9_isParta) (cr_X9_287 (X := X_X9_gram) (fr := 3) (frc := 2) (pc := 2) (mc := 0) (ms := 0) rfl (by decide) dX9_gram_2) ?_
  refine sm_joinJ (pc := 5) (pc' := 67) (j := 1) (fun G0 hG0 => @sbX9_grama_67 d G0 P) (fun j67 hj67 => ?_)
  refine sm_joinJ (pc := 5) (pc' := 64) (j := 1) (fun G0 hG0 => @sbX9_grama_64 d G0 P j67 (hj67.mv hG0 (by decide))) (fun j64 hj64 => ?_)
  refine sm_ifS_eq (pc := 5) (tgt := 64) dX9_gram_5 (by decide) ?_ ?_
  · skip
    exact hj64.use
  · skip
    refine sm_iload_n (pc := 8) (n := 2) dX9_gram_8 rfl ?_
    refine sm_i2lR (pc := 9) dX9_gram_9 ?_
    refine sm_lconst (pc := 10) dX9_gram_10 zc_l_0 ?_
    refine sm_aload_n (pc := 11) (n := 0) dX9_gram_11 rfl ?_
    refine gf_X9_56 (pc := 12) rfl dX9_gram_12 ?_
    refine sm_iload_n (pc := 15) (n := 1) dX9_gram_15 rfl ?_
    refine sm_ialoadQ (pc := 16) dX9_gram_16 ?_
    refine sm_iconst (pc := 17) dX9_gram_17 zc_i_1 ?_
    refine sm_isubR (pc := 18) dX9_gram_18 ?_
    refine sm_i2lR (pc := 19) dX9_gram_19 ?_
    refine sm_cS (pc := 20) (n := 3) (mc := 0) (ms := 0) (zMet_str m_X9_isIna) (cr_X9_283 (X := X_X9_gram) (fr := 3) (frc := 1) (pc := 20) (mc := 0) (ms := 0) rfl (by decide) dX9_gram_20) ?_
    refine sm_ifS_eq (pc := 23) (tgt := 64) dX9_gram_23 (by decide) ?_ ?_
    · skip
      exact hj64.use
    · skip
      refine sm_iload_n (pc := 26) (n := 3) dX9_gram_26 rfl ?_
      refine sm_i2lR (pc := 27) dX9_gram_27 ?_
      refine sm_lconst (pc := 28) dX9_gram_28 zc_l_0 ?_
      refine sm_aload_n (pc := 29) (n := 0) dX9_gram_29 rfl ?_
      refine gf_X9_56 (pc := 30) rfl dX9_gram_30 ?_
      refine sm_iload_n (pc := 33) (n := 1) dX9_gram_33 rfl ?_
      refine sm_ialoadQ (pc := 34) dX9_gram_34 ?_
      refine sm_iconst (pc := 35) dX9_gram_35 zc_i_1 ?_
      exact scX9_grama_36 P j64 j67 hj64 hj67
noncomputable def f_X9_grama {d : Nat} : List zV → zH d → zP d → Bool := zfn 4 b_X9_grama
theorem m_X9_grama {d : Nat} : zMet (d := d) X_X9_gram yX9_gram 3 f_X9_grama := zmet_mk (X := X_X9_gram) (by decide) rfl rfl s_X9_grama

noncomputable def bX9_blocka_229 {d : Nat} (P : zP d) : zK d := (xpI 4294967295 (xiret P))
set_option maxRecDepth 100000 in
set_option maxHeartbeats 4000000 in
theorem sbX9_blocka_229 {d : Nat} [zGh] (P : zP d) : zSim X_X9_block 2 P 229 (bX9_blocka_229 P) := by
  unfold bX9_blocka_229
  refine sm_iconst (pc := 229) dX9_block_229 zc_i_m1 ?_
  exact sm_ireturn (pc := 230) dX9_block_230 rfl
noncomputable def bX9_blocka_120 {d : Nat} (P : zP d) : zK d := (xild 4 (xiret P))
set_option maxRecDepth 100000 in
set_option maxHeartbeats 4000000 in
theorem sbX9_blocka_120 {d : Nat} [zGh] (P : zP d) : zSim X_X9_block 2 P 120 (bX9_blocka_120 P) := by
  unfold bX9_blocka_120
  refine sm_iload (pc := 120) (n := 4) dX9_block_120 ?_
  exact sm_ireturn (pc := 122) dX9_block_122 rfl
noncomputable def bX9_blocka_123 {d : Nat} (P : zP d) : zK d := (xild 3 (xiret P))
set_option maxRecDepth 100000 in
set_option maxHeartbeats 4000000 in
theorem sbX9_blocka_123 {d : Nat} [zGh] (P : zP d) : zSim X_X9_block 2 P 123 (bX9_blocka_123 P) := by
  unfold bX9_blocka_123
  refine sm_iload_n (pc := 123) (n := 3) dX9_block_123 rfl ?_
  exact sm_ireturn (pc := 124) dX9_block_124 rfl
noncomputable def bX9_blocka_125 {d : Nat} (P : zP d) : zK d := (xald 0 (xgfR 25 15 (xald 0 (xgfR 25 19 (xild 1 (xalQ 0 (xalQ 0 (xiret P))))))))
set_option maxRecDepth 100000 in
set_option maxHeartbeats 4000000 in
theorem sbX9_blocka_125 {d : Nat} [zGh] (P : zP d) : zSim X_X9_block 2 P 125 (bX9_blocka_125 P) := by
  unfold bX9_blocka_125
  refine sm_aload_n (pc := 125) (n := 0) dX9_block_125 rfl ?_
  refine gf_X9_41 (pc := 126) rfl dX9_block_126 ?_
  refine sm_aload_n (pc := 129) (n := 0) dX9_block_129 rfl ?_
  refine gf_X9_50 (pc := 130) rfl dX9_block_130 ?_
  refine sm_iload_n (pc := 133) (n := 1) dX9_block_133 rfl ?_
  refine sm_ialoadQ (pc := 134) dX9_block_134 ?_
  refine sm_ialoadQ (pc := 135) dX9_block_135 ?_
  exact sm_ireturn (pc := 136) dX9_block_136 rfl
noncomputable def bX9_blocka_137 {d : Nat} (P : zP d) : zK d := (xald 0 (xald 0 (xgfR 25 15 (xald 0 (xgfR 25 19 (xild 1 (xalQ 0 (xalQ 0 (xcV 25 2 0 0 (zstr f_X9_defect) (xiret P))))))))))
set_option maxRecDepth 100000 in
set_option maxHeartbeats 4000000 in
theorem sbX9_blocka_137 {d : Nat} [zGh] (P : zP d) : zSim X_X9_block 2 P 137 (bX9_blocka_137 P) := by
  unfold bX9_blocka_137
  refine sm_aload_n (pc := 137) (n := 0) dX9_block_137 rfl ?_
  refine sm_aload_n (pc := 138) (n := 0) dX9_block_138 rfl ?_
  refine gf_X9_41 (pc := 139) rfl dX9_block_139 ?_
  refine sm_aload_n (pc := 142) (n := 0) dX9_block_142 rfl ?_
  refine gf_X9_50 (pc := 143) rfl dX9_block_143 ?_
  refine sm_iload_n (pc := 146) (n := 1) dX9_block_146 rfl ?_
  refine sm_ialoadQ (pc := 147) dX9_block_147 ?_
  refine sm_ialoadQ (pc := 148) dX9_block_148 ?_
  refine sm_cV (pc := 149) (ci := 9) (n := 2) (mc := 0) (ms := 0) rfl (zMet_str m_X9_defect) (cr_X9_312 (X := X_X9_block) (fr := 2) (frc := 1) (pc := 149) (mc := 0) (ms := 0) rfl (by decide) dX9_block_149) ?_
  exact sm_ireturn (pc := 152) dX9_block_152 rfl
noncomputable def bX9_blocka_153 {d : Nat} (P : zP d) : zK d := (xald 0 (xgfR 25 19 (xild 1 (xalQ 0 (xiret P)))))
set_option maxRecDepth 100000 in
set_option maxHeartbeats 4000000 in
theorem sbX9_blocka_153 {d : Nat} [zGh] (P : zP d) : zSim X_X9_block 2 P 153 (bX9_blocka_153 P) := by
  unfold bX9_blocka_153
  refine sm_aload_n (pc := 153) (n := 0) dX9_block_153 rfl ?_
  refine gf_X9_50 (pc := 154) rfl dX9_block_154 ?_
  refine sm_iload_n (pc := 157) (n := 1) dX9_block_157 rfl ?_
  refine sm_ialoadQ (pc := 158) dX9_block_158 ?_
  exact sm_ireturn (pc := 159) dX9_block_159 rfl
noncomputable def lX9_blocka_172 {d : Nat} (P : zP d) (r163 : zK d) (r172 : zK d) : zK d := (xild 6 (xild 3 (xcmpS tgeR rlGe rhS rlS rhLt (xincR 5 1 r163) (xald 0 (xgfR 25 41 (xpI 11 (xild 5 (xbin zmulR (xild 6 (xbin zaddR (xald 0 (xald 0 (xgfR 25 42 (xild 5 (xalQ 0 (xald 0 (xgfR 25 42 (xild 6 (xalQ 0 (xcV 25 3 0 0 (zstr f_X9_cartanOf) (xi2lR (xlas (xincR 6 1 r172)))))))))))))))))))))))
set_option maxRecDepth 100000 in
set_option maxHeartbeats 4000000 in
theorem slX9_blocka_172 {d : Nat} [zGh] (P : zP d) (r163 : zK d) (r172 : zK d) (hr163 : zSimJ 1 X_X9_block 2 P 163 r163) (hr172 : zSimJ 1 X_X9_block 2 P 172 r172) : zSim X_X9_block 2 P 172 (lX9_blocka_172 P r163 r172) := by
  unfold lX9_blocka_172
  refine sm_iload (pc := 172) (n := 6) dX9_block_172 ?_
  refine sm_iload_n (pc := 174) (n := 3) dX9_block_174 rfl ?_
  refine sm_icmpS_ge (pc := 175) (tgt := 216) dX9_block_175 (by decide) ?_ ?_
  · skip
    refine sm_iincR (pc := 216) (n := 5) dX9_block_216 zc_i_1 ?_
    refine sm_goto (pc := 219) (tgt := 163) dX9_block_219 (by decide) ?_
    exact hr163.use
  · skip
    refine sm_aload_n (pc := 178) (n := 0) dX9_block_178 rfl ?_
    refine gf_X9_108 (pc := 179) rfl dX9_block_179 ?_
    refine sm_bipush (pc := 182) dX9_block_182 zc_b_11 ?_
    refine sm_iload (pc := 184) (n := 5) dX9_block_184 ?_
    refine sm_imulR (pc := 186) dX9_block_186 ?_
    refine sm_iload (pc := 187) (n := 6) dX9_block_187 ?_
    refine sm_iaddR (pc := 189) dX9_block_189 ?_
    refine sm_aload_n (pc := 190) (n := 0) dX9_block_190 rfl ?_
    refine sm_aload_n (pc := 191) (n := 0) dX9_block_191 rfl ?_
    refine gf_X9_112 (pc := 192) rfl dX9_block_192 ?_
    refine sm_iload (pc := 195) (n := 5) dX9_block_195 ?_
    refine sm_ialoadQ (pc := 197) dX9_block_197 ?_
    refine sm_aload_n (pc := 198) (n := 0) dX9_block_198 rfl ?_
    refine gf_X9_112 (pc := 199) rfl dX9_block_199 ?_
    refine sm_iload (pc := 202) (n := 6) dX9_block_202 ?_
    refine sm_ialoadQ (pc := 204) dX9_block_204 ?_
    refine sm_cV (pc := 205) (ci := 9) (n := 3) (mc := 0) (ms := 0) rfl (zMet_str m_X9_cartanOf) (cr_X9_306 (X := X_X9_block) (fr := 2) (frc := 1) (pc := 205) (mc := 0) (ms := 0) rfl (by decide) dX9_block_205) ?_
    refine sm_i2lR (pc := 208) dX9_block_208 ?_
    refine sm_lastore (pc := 209) dX9_block_209 ?_
    refine sm_iincR (pc := 210) (n := 6) dX9_block_210 zc_i_1 ?_
    refine sm_goto (pc := 213) (tgt := 172) dX9_block_213 (by decide) ?_
    exact hr172.use
noncomputable def lX9_blocka_163 {d : Nat} (P : zP d) (r163 : zK d) : zK d := (xild 5 (xild 3 (xcmpS tgeR rlGe rhS rlS rhLt (xald 0 (xild 3 (xcV 25 2 0 0 (zstr f_X9_determinant) (xl2i (xiret P))))) (xpI 0 (xist 6 (xloop (fun r172 => (lX9_blocka_172 P r163 r172)) 100000))))))
set_option maxRecDepth 100000 in
set_option maxHeartbeats 4000000 in
theorem slX9_blocka_163 {d : Nat} [zGh] (P : zP d) (r163 : zK d) (hr163 : zSimJ 1 X_X9_block 2 P 163 r163) : zSim X_X9_block 2 P 163 (lX9_blocka_163 P r163) := by
  unfold lX9_blocka_163
  refine sm_iload (pc := 163) (n := 5) dX9_block_163 ?_
  refine sm_iload_n (pc := 165) (n := 3) dX9_block_165 rfl ?_
  refine sm_icmpS_ge (pc := 166) (tgt := 222) dX9_block_166 (by decide) ?_ ?_
  · skip
    refine sm_aload_n (pc := 222) (n := 0) dX9_block_222 rfl ?_
    refine sm_iload_n (pc := 223) (n := 3) dX9_block_223 rfl ?_
    refine sm_cV (pc := 224) (ci := 9) (n := 2) (mc := 0) (ms := 0) rfl (zMet_str m_X9_determinant) (cr_X9_315 (X := X_X9_block) (fr := 2) (frc := 1) (pc := 224) (mc := 0) (ms := 0) rfl (by decide) dX9_block_224) ?_
    refine sm_l2i (pc := 227) dX9_block_227 ?_
    exact sm_ireturn (pc := 228) dX9_block_228 rfl
  · skip
    refine sm_iconst (pc := 169) dX9_block_169 zc_i_0 ?_
    refine sm_istore (pc := 170) (n := 6) dX9_block_170 ?_
    exact (sm_loopJ (j := 1) (fun G1 hG1 r172 hr172 => @slX9_blocka_172 d G1 P r163 r172 (hr163.mv hG1 (by decide)) hr172) _).use
noncomputable def bX9_blocka_160 {d : Nat} (P : zP d) : zK d := (xpI 0 (xist 5 (xloop (fun r163 => (lX9_blocka_163 P r163)) 100000)))
set_option maxRecDepth 100000 in
set_option maxHeartbeats 4000000 in
theorem sbX9_blocka_160 {d : Nat} [zGh] (P : zP d) : zSim X_X9_block 2 P 160 (bX9_blocka_160 P) := by
  unfold bX9_blocka_160
  refine sm_iconst (pc := 160) dX9_block_160 zc_i_0 ?_
  refine sm_istore (pc := 161) (n := 5) dX9_block_161 ?_
  exact (sm_loopJ (j := 1) (fun G1 hG1 r163 hr163 => @slX9_blocka_163 d G1 P r163 hr163) _).use
noncomputable def bX9_blocka_67 {d : Nat} (P : zP d) (r40 : zK d) : zK d := (xcS 1 0 0 (zstr f_X9_one) (xbin zaddR (xist 4 (xincR 5 1 r40))))
set_option maxRecDepth 100000 in
set_option maxHeartbeats 4000000 in
theorem sbX9_blocka_67 {d : Nat} [zGh] (P : zP d) (r40 : zK d) (hr40 : zSimJ 1 X_X9_block 2 P 40 r40) : zSim X_X9_block 2 P 67 (bX9_blocka_67 P r40) := by
  unfold bX9_blocka_67
  refine sm_cS (pc := 67) (n := 1) (mc := 0) (ms := 0) (zMet_str m_X9_one) (cr_X9_187 (X := X_X9_block) (fr := 2) (frc := 1) (pc := 67) (mc := 0) (ms := 0) rfl (by decide) dX9_block_67) ?_
  refine sm_iaddR (pc := 70) dX9_block_70 ?_
  refine sm_istore (pc := 71) (n := 4) dX9_block_71 ?_
  refine sm_iincR (pc := 73) (n := 5) dX9_block_73 zc_i_1 ?_
  refine sm_goto (pc := 76) (tgt := 40) dX9_block_76 (by decide) ?_
  exact hr40.use
noncomputable def lX9_blocka_40 {d : Nat} (P : zP d) (r40 : zK d) : zK d := (xild 5 (xald 0 (xgfI 25 2 (xcmpS tgeR rlGe rhS rlS rhLt (xild 2 (xtswR 5 [(bX9_blocka_120 P), (bX9_blocka_123 P), (bX9_blocka_125 P), (bX9_blocka_137 P), (bX9_blocka_153 P), (bX9_blocka_160 P)] (bX9_blocka_229 P))) (xild 4 (xald 0 (xgfR 25 17 (xild 5 (xalQ 0 (xild 1 (xjoin (bX9_blocka_67 P r40) (fun j67 => (xcmpS teqR rlEq rhEq rlNe rhNe (xpI 1 j67) (xpI 0 j67))))))))))))))
set_option maxRecDepth 100000 in
set_option maxHeartbeats 4000000 in
theorem slX9_blocka_40 {d : Nat} [zGh] (P : zP d) (r40 : zK d) (hr40 : zSimJ 1 X_X9_block 2 P 40 r40) : zSim X_X9_block 2 P 40 (lX9_blocka_40 P r40) := by
  unfold lX9_blocka_40
  refine sm_iload (pc := 40) (n := 5) dX9_block_40 ?_
  refine sm_aload_n (pc := 42) (n := 0) dX9_block_42 rfl ?_
  refine gf_X9_153 (pc := 43) rfl dX9_block_43 ?_
  refine sm_icmpS_ge (pc := 46) (tgt := 79) dX9_block_46 (by decide) ?_ ?_
  · skip
    refine sm_iload_n (pc := 79) (n := 2) dX9_block_79 rfl ?_
    exact sm_tswR (pc := 80) (n := 5) (tdf := 229) [120, 123, 125, 137, 153, 160] rfl (by decide) dX9_block_80 rfl (by decide +kernel) (by decide) (sbX9_blocka_229 P) ⟨sbX9_blocka_120 P, sbX9_blocka_123 P, sbX9_blocka_125 P, sbX9_blocka_137 P, sbX9_blocka_153 P, sbX9_blocka_160 P, trivial⟩
  · skip
    refine sm_iload (pc := 49) (n := 4) dX9_block_49 ?_
    refine sm_aload_n (pc := 51) (n := 0) dX9_block_51 rfl ?_
    refine gf_X9_47 (pc := 52) rfl dX9_block_52 ?_
    refine sm_iload (pc := 55) (n := 5) dX9_block_55 ?_
    refine sm_ialoadQ (pc := 57) dX9_block_57 ?_
    refine sm_iload_n (pc := 58) (n := 1) dX9_block_58 rfl ?_
    refine sm_joinJ (pc := 59) (pc' := 67) (j := 1) (fun G0 hG0 => @sbX9_blocka_67 d G0 P r40 (hr40.mv hG0 (by decide))) (fun j67 hj67 => ?_)
    refine sm_icmpS_ne (pc := 59) (tgt := 66) dX9_block_59 (by decide) ?_ ?_
    · skip
      refine sm_iconst (pc := 66) dX9_block_66 zc_i_0 ?_
      exact hj67.use
    · skip
      refine sm_iconst (pc := 62) dX9_block_62 zc_i_1 ?_
      refine sm_goto (pc := 63) (tgt := 67) dX9_block_63 (by decide) ?_
      exact hj67.use
noncomputable def b_X9_blocka {d : Nat} (P : zP d) : zK d := (xild 2 (xpI 4294967295 (xcmpS teqR rlEq rhEq rlNe rhNe (xald 0 (xgfI 25 18 (xiret P))) (xild 1 (xi2lR (xpL 0 (xald 0 (xgfI 25 18 (xpI 1 (xbin zsubR (xi2lR (xcS 3 0 0 (zstr f_X9_isIna) (xif0S teqR rlEq rhEq rlNe rhNe (xpI 4294967295 (xiret P)) (xald 0 (xild 1 (xcV 25 2 0 0 (zstr f_X9_membersOf) (xist 3 (xpI 0 (xist 4 (xpI 0 (xist 5 (xloop (fun r40 => (lX9_blocka_40 P r40)) 100000))))))))))))))))))))))
set_option maxRecDepth 100000 in
set_option maxHeartbeats 4000000 in
theorem s_X9_blocka {d : Nat} [zGh] (P : zP d) : zSim X_X9_block 2 P 0 (b_X9_blocka P) := by
  unfold b_X9_blocka
  refine sm_iload_n (pc := 0) (n := 2) dX9_block_0 rfl ?_
  refine sm_iconst (pc := 1) dX9_block_1 zc_i_m1 ?_
  refine sm_icmpS_ne (pc := 2) (tgt := 10) dX9_block_2 (by decide) ?_ ?_
  · skip
    refine sm_iload_n (pc := 10) (n := 1) dX9_block_10 rfl ?_
    refine sm_i2lR (pc := 11) dX9_block_11 ?_
    refine sm_lconst (pc := 12) dX9_block_12 zc_l_0 ?_
    refine sm_aload_n (pc := 13) (n := 0) dX9_block_13 rfl ?_
    refine gf_X9_199 (pc := 14) rfl dX9_block_14 ?_
    refine sm_iconst (pc := 17) dX9_block_17 zc_i_1 ?_
    refine sm_isubR (pc := 18) dX9_block_18 ?_
    refine sm_i2lR (pc := 19) dX9_block_19 ?_
    refine sm_cS (pc := 20) (n := 3) (mc := 0) (ms := 0) (zMet_str m_X9_isIna) (cr_X9_283 (X := X_X9_block) (fr := 2) (frc := 1) (pc := 20) (mc := 0) (ms := 0) rfl (by decide) dX9_block_20) ?_
    refine sm_ifS_ne (pc := 23) (tgt := 28) dX9_block_23 (by decide) ?_ ?_
    · skip
      refine sm_aload_n (pc := 28) (n := 0) dX9_block_28 rfl ?_
      refine sm_iload_n (pc := 29) (n := 1) dX9_block_29 rfl ?_
      refine sm_cV (pc := 30) (ci := 9) (n := 2) (mc := 0) (ms := 0) rfl (zMet_str m_X9_membersOf) (cr_X9_309 (X := X_X9_block) (fr := 2) (frc := 1) (pc := 30) (mc := 0) (ms := 0) rfl (by decide) dX9_block_30) ?_
      refine sm_istore_n (pc := 33) (n := 3) dX9_block_33 rfl ?_
      refine sm_iconst (pc := 34) dX9_block_34 zc_i_0 ?_
      refine sm_istore (pc := 35) (n := 4) dX9_block_35 ?_
      refine sm_iconst (pc := 37) dX9_block_37 zc_i_0 ?_
      refine sm_istore (pc := 38) (n := 5) dX9_block_38 ?_
      exact (sm_loopJ (j := 1) (fun G1 hG1 r40 hr40 => @slX9_blocka_40 d G1 P r40 hr40) _).use
    · skip
      refine sm_iconst (pc := 26) dX9_block_26 zc_i_m1 ?_
      exact sm_ireturn (pc := 27) dX9_block_27 rfl
  · skip
    refine sm_aload_n (pc := 5) (n := 0) dX9_block_5 rfl ?_
    refine gf_X9_199 (pc := 6) rfl dX9_block_6 ?_
    exact sm_ireturn (pc := 9) dX9_block_9 rfl
noncomputable def f_X9_blocka {d : Nat} : List zV → zH d → zP d → Bool := zfn 7 b_X9_blocka
theorem m_X9_blocka {d : Nat} : zMet (d := d) X_X9_block yX9_block 2 f_X9_blocka := zmet_mk (X := X_X9_block) (by decide) rfl rfl s_X9_blocka

noncomputable def bX9_valuea_32 {d : Nat} (P : zP d) : zK d := (xlret P)
set_option maxRecDepth 100000 in
set_option maxHeartbeats 4000000 in
theorem sbX9_valuea_32 {d : Nat} [zGh] (P : zP d) : zSim X_X9_value 3 P 32 (bX9_valuea_32 P) := by
  unfold bX9_valuea_32
  exact sm_lreturn (pc := 32) dX9_value_32 rfl
noncomputable def bX9_valuea_29 {d : Nat} (P : zP d) (j32 : zK d) : zK d := (xpL 9223372036854775808 j32)
set_option maxRecDepth 100000 in
set_option maxHeartbeats 4000000 in
theorem sbX9_valuea_29 {d : Nat} [zGh] (P : zP d) (j32 : zK d) (hj32 : zSimJ 1 X_X9_value 3 P 32 j32) : zSim X_X9_value 3 P 29 (bX9_valuea_29 P j32) := by
  unfold bX9_valuea_29
  refine sm_ldc2 (pc := 29) dX9_value_29 wd_1311 zc_cl_m9223372036854775808 ?_
  exact hj32.use
noncomputable def b_X9_valuea {d : Nat} (P : zP d) : zK d := (xild 1 (xcS 1 0 0 (zstr f_X9_isSlota) (xjoin (bX9_valuea_32 P) (fun j32 => (xjoin (bX9_valuea_29 P j32) (fun j29 => (xif0S teqR rlEq rhEq rlNe rhNe j29 (xald 0 (xild 2 (xcV 25 2 0 0 (zstr f_X9_isParta) (xif0S teqR rlEq rhEq rlNe rhNe j29 (xald 0 (xgfR 25 43 (xpI 11 (xild 1 (xbin zmulR (xild 2 (xbin zaddR (xlal j32)))))))))))))))))))
set_option maxRecDepth 100000 in
set_option maxHeartbeats 4000000 in
theorem s_X9_valuea {d : Nat} [zGh] (P : zP d) : zSim X_X9_value 3 P 0 (b_X9_valuea P) := by
  unfold b_X9_valuea
  refine sm_iload_n (pc := 0) (n := 1) dX9_value_0 rfl ?_
  refine sm_cS (pc := 1) (n := 1) (mc := 0) (ms := 0) (zMet_str m_X9_isSlota) (cr_X9_319 (X := X_X9_value) (fr := 3) (frc := 2) (pc := 1) (mc := 0) (ms := 0) rfl (by decide) dX9_value_1) ?_
  refine sm_joinJ (pc := 4) (pc' := 32) (j := 1) (fun G0 hG0 => @sbX9_valuea_32 d G0 P) (fun j32 hj32 => ?_)
  refine sm_joinJ (pc := 4) (pc' := 29) (j := 1) (fun G0 hG0 => @sbX9_valuea_29 d G0 P j32 (hj32.mv hG0 (by decide))) (fun j29 hj29 => ?_)
  refine sm_ifS_eq (pc := 4) (tgt := 29) dX9_value_4 (by decide) ?_ ?_
  · skip
    exact hj29.use
  · skip
    refine sm_aload_n (pc := 7) (n := 0) dX9_value_7 rfl ?_
    refine sm_iload_n (pc := 8) (n := 2) dX9_value_8 rfl ?_
    refine sm_cV (pc := 9) (ci := 9) (n := 2) (mc := 0) (ms := 0) rfl (zMet_str m_X9_isParta) (cr_X9_287 (X := X_X9_value) (fr := 3) (frc := 2) (pc := 9) (mc := 0) (ms := 0) rfl (by decide) dX9_value_9) ?_
    refine sm_ifS_eq (pc := 12) (tgt := 29) dX9_value_12 (by decide) ?_ ?_
    · skip
      exact hj29.use
    · skip
      refine sm_aload_n (pc := 15) (n := 0) dX9_value_15 rfl ?_
      refine gf_X9_115 (pc := 16) rfl dX9_value_16 ?_
      refine sm_bipush (pc := 19) dX9_value_19 zc_b_11 ?_
      refine sm_iload_n (pc := 21) (n := 1) dX9_value_21 rfl ?_
      refine sm_imulR (pc := 22) dX9_value_22 ?_
      refine sm_iload_n (pc := 23) (n := 2) dX9_value_23 rfl ?_
      refine sm_iaddR (pc := 24) dX9_value_24 ?_
      refine sm_laload (pc := 25) dX9_value_25 ?_
      refine sm_goto (pc := 26) (tgt := 32) dX9_value_26 (by decide) ?_
      exact hj32.use
noncomputable def f_X9_valuea {d : Nat} : List zV → zH d → zP d → Bool := zfn 3 b_X9_valuea
theorem m_X9_valuea {d : Nat} : zMet (d := d) X_X9_value yX9_value 3 f_X9_valuea := zmet_mk (X := X_X9_value) (by decide) rfl rfl s_X9_valuea

noncomputable def bX9_partsa_43 {d : Nat} (P : zP d) : zK d := (xpL 9223372036854775808 (xlret P))
set_option maxRecDepth 100000 in
set_option maxHeartbeats 4000000 in
theorem sbX9_partsa_43 {d : Nat} [zGh] (P : zP d) : zSim X_X9_parts 3 P 43 (bX9_partsa_43 P) := by
  unfold bX9_partsa_43
  refine sm_ldc2 (pc := 43) dX9_parts_43 wd_1311 zc_cl_m9223372036854775808 ?_
  exact sm_lreturn (pc := 46) dX9_parts_46 rfl
noncomputable def bX9_partsa_103 {d : Nat} (P : zP d) : zK d := (xlret P)
set_option maxRecDepth 100000 in
set_option maxHeartbeats 4000000 in
theorem sbX9_partsa_103 {d : Nat} [zGh] (P : zP d) : zSim X_X9_parts 3 P 103 (bX9_partsa_103 P) := by
  unfold bX9_partsa_103
  exact sm_lreturn (pc := 103) dX9_parts_103 rfl
noncomputable def bX9_partsa_68 {d : Nat} (P : zP d) : zK d := (xlst 4 (xlld 4 (xald 0 (xgfI 25 12 (xi2lR (xcS 2 0 0 (zstr f_X9_divisor) (xlst 6 (xild 3 (xpI 2 (xjoin (bX9_partsa_103 P) (fun j103 => (xcmpS tgeR rlGe rhS rlS rhLt (xald 0 (xgfI 25 12 (xi2lR (xlld 6 (xbinjN zdivj j103))))) (xlld 4 (xlld 6 (xbinjN zdivj j103)))))))))))))))
set_option maxRecDepth 100000 in
set_option maxHeartbeats 4000000 in
theorem sbX9_partsa_68 {d : Nat} [zGh] (P : zP d) : zSim X_X9_parts 3 P 68 (bX9_partsa_68 P) := by
  unfold bX9_partsa_68
  refine sm_lstore (pc := 68) (n := 4) dX9_parts_68 ?_
  refine sm_lload (pc := 70) (n := 4) dX9_parts_70 ?_
  refine sm_aload_n (pc := 72) (n := 0) dX9_parts_72 rfl ?_
  refine gf_X9_166 (pc := 73) rfl dX9_parts_73 ?_
  refine sm_i2lR (pc := 76) dX9_parts_76 ?_
  refine sm_cS (pc := 77) (n := 2) (mc := 0) (ms := 0) (zMet_str m_X9_divisor) (cr_X9_335 (X := X_X9_parts) (fr := 3) (frc := 1) (pc := 77) (mc := 0) (ms := 0) rfl (by decide) dX9_parts_77) ?_
  refine sm_lstore (pc := 80) (n := 6) dX9_parts_80 ?_
  refine sm_iload_n (pc := 82) (n := 3) dX9_parts_82 rfl ?_
  refine sm_iconst (pc := 83) dX9_parts_83 zc_i_2 ?_
  refine sm_joinJ (pc := 84) (pc' := 103) (j := 1) (fun G0 hG0 => @sbX9_partsa_103 d G0 P) (fun j103 hj103 => ?_)
  refine sm_icmpS_ge (pc := 84) (tgt := 95) dX9_parts_84 (by decide) ?_ ?_
  · skip
    refine sm_aload_n (pc := 95) (n := 0) dX9_parts_95 rfl ?_
    refine gf_X9_166 (pc := 96) rfl dX9_parts_96 ?_
    refine sm_i2lR (pc := 99) dX9_parts_99 ?_
    refine sm_lload (pc := 100) (n := 6) dX9_parts_100 ?_
    refine sm_ldiv (pc := 102) dX9_parts_102 ?_
    exact hj103.use
  · skip
    refine sm_lload (pc := 87) (n := 4) dX9_parts_87 ?_
    refine sm_lload (pc := 89) (n := 6) dX9_parts_89 ?_
    refine sm_ldiv (pc := 91) dX9_parts_91 ?_
    refine sm_goto (pc := 92) (tgt := 103) dX9_parts_92 (by decide) ?_
    exact hj103.use
noncomputable def bX9_partsa_47 {d : Nat} (P : zP d) : zK d := (xild 3 (xpI 2 (xbinN zremR (xjoin (bX9_partsa_68 P) (fun j68 => (xif0S teqR rlEq rhEq rlNe rhNe (xald 0 (xild 1 (xild 2 (xcV 25 3 0 0 (zstr f_X9_ordinarySum) j68)))) (xald 0 (xild 1 (xild 2 (xcV 25 3 0 0 (zstr f_X9_modularSum) j68))))))))))
set_option maxRecDepth 100000 in
set_option maxHeartbeats 4000000 in
theorem sbX9_partsa_47 {d : Nat} [zGh] (P : zP d) : zSim X_X9_parts 3 P 47 (bX9_partsa_47 P) := by
  unfold bX9_partsa_47
  refine sm_iload_n (pc := 47) (n := 3) dX9_parts_47 rfl ?_
  refine sm_iconst (pc := 48) dX9_parts_48 zc_i_2 ?_
  refine sm_iremR (pc := 49) dX9_parts_49 ?_
  refine sm_joinJ (pc := 50) (pc' := 68) (j := 1) (fun G0 hG0 => @sbX9_partsa_68 d G0 P) (fun j68 hj68 => ?_)
  refine sm_ifS_ne (pc := 50) (tgt := 62) dX9_parts_50 (by decide) ?_ ?_
  · skip
    refine sm_aload_n (pc := 62) (n := 0) dX9_parts_62 rfl ?_
    refine sm_iload_n (pc := 63) (n := 1) dX9_parts_63 rfl ?_
    refine sm_iload_n (pc := 64) (n := 2) dX9_parts_64 rfl ?_
    refine sm_cV (pc := 65) (ci := 9) (n := 3) (mc := 0) (ms := 0) rfl (zMet_str m_X9_modularSum) (cr_X9_332 (X := X_X9_parts) (fr := 3) (frc := 1) (pc := 65) (mc := 0) (ms := 0) rfl (by decide) dX9_parts_65) ?_
    exact hj68.use
  · skip
    refine sm_aload_n (pc := 53) (n := 0) dX9_parts_53 rfl ?_
    refine sm_iload_n (pc := 54) (n := 1) dX9_parts_54 rfl ?_
    refine sm_iload_n (pc := 55) (n := 2) dX9_parts_55 rfl ?_
    refine sm_cV (pc := 56) (ci := 9) (n := 3) (mc := 0) (ms := 0) rfl (zMet_str m_X9_ordinarySum) (cr_X9_328 (X := X_X9_parts) (fr := 3) (frc := 1) (pc := 56) (mc := 0) (ms := 0) rfl (by decide) dX9_parts_56) ?_
    refine sm_goto (pc := 59) (tgt := 68) dX9_parts_59 (by decide) ?_
    exact hj68.use
noncomputable def b_X9_partsa {d : Nat} (P : zP d) : zK d := (xild 1 (xcS 1 0 0 (zstr f_X9_isSlota) (xjoin (bX9_partsa_43 P) (fun j43 => (xif0S teqR rlEq rhEq rlNe rhNe j43 (xald 0 (xild 2 (xcV 25 2 0 0 (zstr f_X9_isParta) (xif0S teqR rlEq rhEq rlNe rhNe j43 (xild 3 (xi2lR (xpL 0 (xpL 3 (xcS 3 0 0 (zstr f_X9_isIna) (xif0S teqR rlEq rhEq rlNe rhNe j43 (xild 3 (xpI 2 (xbinN zremR (xpI 1 (xjoin (bX9_partsa_47 P) (fun j47 => (xcmpS teqR rlEq rhEq rlNe rhNe (xald 0 (xgfR 25 7 (xild 2 (xalQ 1 (xif0S teqR rlEq rhEq rlNe rhNe j43 j47))))) j47))))))))))))))))))))))
set_option maxRecDepth 100000 in
set_option maxHeartbeats 4000000 in
theorem s_X9_partsa {d : Nat} [zGh] (P : zP d) : zSim X_X9_parts 3 P 0 (b_X9_partsa P) := by
  unfold b_X9_partsa
  refine sm_iload_n (pc := 0) (n := 1) dX9_parts_0 rfl ?_
  refine sm_cS (pc := 1) (n := 1) (mc := 0) (ms := 0) (zMet_str m_X9_isSlota) (cr_X9_319 (X := X_X9_parts) (fr := 3) (frc := 2) (pc := 1) (mc := 0) (ms := 0) rfl (by decide) dX9_parts_1) ?_
  refine sm_joinJ (pc := 4) (pc' := 43) (j := 1) (fun G0 hG0 => @sbX9_partsa_43 d G0 P) (fun j43 hj43 => ?_)
  refine sm_ifS_eq (pc := 4) (tgt := 43) dX9_parts_4 (by decide) ?_ ?_
  · skip
    exact hj43.use
  · skip
    refine sm_aload_n (pc := 7) (n := 0) dX9_parts_7 rfl ?_
    refine sm_iload_n (pc := 8) (n := 2) dX9_parts_8 rfl ?_
    refine sm_cV (pc := 9) (ci := 9) (n := 2) (mc := 0) (ms := 0) rfl (zMet_str m_X9_isParta) (cr_X9_287 (X := X_X9_parts) (fr := 3) (frc := 2) (pc := 9) (mc := 0) (ms := 0) rfl (by decide) dX9_parts_9) ?_
    refine sm_ifS_eq (pc := 12) (tgt := 43) dX9_parts_12 (by decide) ?_ ?_
    · skip
      exact hj43.use
    · skip
      refine sm_iload_n (pc := 15) (n := 3) dX9_parts_15 rfl ?_
      refine sm_i2lR (pc := 16) dX9_parts_16 ?_
      refine sm_lconst (pc := 17) dX9_parts_17 zc_l_0 ?_
      refine sm_ldc2 (pc := 18) dX9_parts_18 wd_1316 zc_cl_3 ?_
      refine sm_cS (pc := 21) (n := 3) (mc := 0) (ms := 0) (zMet_str m_X9_isIna) (cr_X9_283 (X := X_X9_parts) (fr := 3) (frc := 1) (pc := 21) (mc := 0) (ms := 0) rfl (by decide) dX9_parts_21) ?_
      refine sm_ifS_eq (pc := 24) (tgt := 43) dX9_parts_24 (by decide) ?_ ?_
      · skip
        exact hj43.use
      · skip
        refine sm_iload_n (pc := 27) (n := 3) dX9_parts_27 rfl ?_
        refine sm_iconst (pc := 28) dX9_parts_28 zc_i_2 ?_
        refine sm_iremR (pc := 29) dX9_parts_29 ?_
        refine sm_iconst (pc := 30) dX9_parts_30 zc_i_1 ?_
        refine sm_joinJ (pc := 31) (pc' := 47) (j := 1) (fun G0 hG0 => @sbX9_partsa_47 d G0 P) (fun j47 hj47 => ?_)
        refine sm_icmpS_ne (pc := 31) (tgt := 47) dX9_parts_31 (by decide) ?_ ?_
        · skip
          exact hj47.use
        · skip
          refine sm_aload_n (pc := 34) (n := 0) dX9_parts_34 rfl ?_
          refine gf_X9_22 (pc := 35) rfl dX9_parts_35 ?_
          refine sm_iload_n (pc := 38) (n := 2) dX9_parts_38 rfl ?_
          refine sm_baloadQ (pc := 39) dX9_parts_39 ?_
          refine sm_ifS_ne (pc := 40) (tgt := 47) dX9_parts_40 (by decide) ?_ ?_
          · skip
            exact hj47.use
          · skip
            exact hj43.use
noncomputable def f_X9_partsa {d : Nat} : List zV → zH d → zP d → Bool := zfn 8 b_X9_partsa
theorem m_X9_partsa {d : Nat} : zMet (d := d) X_X9_parts yX9_parts 3 f_X9_partsa := zmet_mk (X := X_X9_parts) (by decide) rfl rfl s_X9_partsa

noncomputable def bX9_innera_14 {d : Nat} (P : zP d) : zK d := (xpL 18446744073709551615 (xlret P))
set_option maxRecDepth 100000 in
set_option maxHeartbeats 4000000 in
theorem sbX9_innera_14 {d : Nat} [zGh] (P : zP d) : zSim X_X9_inner 3 P 14 (bX9_innera_14 P) := by
  unfold bX9_innera_14
  refine sm_ldc2 (pc := 14) dX9_inner_14 wd_1332 zc_cl_m1 ?_
  exact sm_lreturn (pc := 17) dX9_inner_17 rfl
noncomputable def cX9_innera_62 {d : Nat} (P : zP d) (r23 : zK d) : zK d := (xild 5 (xalQ 0 (xi2lR (xbinj zmulj (xbinj zaddj (xlst 3 (xincR 5 1 r23)))))))
set_option maxRecDepth 100000 in
set_option maxHeartbeats 4000000 in
theorem scX9_innera_62 {d : Nat} [zGh] (P : zP d) (r23 : zK d) (hr23 : zSimJ 1 X_X9_inner 3 P 23 r23) : zSim X_X9_inner 3 P 62 (cX9_innera_62 P r23) := by
  unfold cX9_innera_62
  refine sm_iload (pc := 62) (n := 5) dX9_inner_62 ?_
  refine sm_ialoadQ (pc := 64) dX9_inner_64 ?_
  refine sm_i2lR (pc := 65) dX9_inner_65 ?_
  refine sm_lmul (pc := 66) dX9_inner_66 ?_
  refine sm_ladd (pc := 67) dX9_inner_67 ?_
  refine sm_lstore_n (pc := 68) (n := 3) dX9_inner_68 rfl ?_
  refine sm_iincR (pc := 69) (n := 5) dX9_inner_69 zc_i_1 ?_
  refine sm_goto (pc := 72) (tgt := 23) dX9_inner_72 (by decide) ?_
  exact hr23.use
noncomputable def lX9_innera_23 {d : Nat} (P : zP d) (r23 : zK d) : zK d := (xild 5 (xald 0 (xgfI 25 2 (xcmpS tgeR rlGe rhS rlS rhLt (xlld 3 (xlret P)) (xlld 3 (xald 0 (xgfR 25 43 (xpI 11 (xild 1 (xbin zmulR (xild 5 (xbin zaddR (xlal (xald 0 (xgfR 25 43 (xpI 11 (xild 2 (xbin zmulR (xild 5 (xbin zaddR (xlal (xbinj zmulj (xald 0 (xgfR 25 5 (cX9_innera_62 P r23)))))))))))))))))))))))))
set_option maxRecDepth 100000 in
set_option maxHeartbeats 4000000 in
theorem slX9_innera_23 {d : Nat} [zGh] (P : zP d) (r23 : zK d) (hr23 : zSimJ 1 X_X9_inner 3 P 23 r23) : zSim X_X9_inner 3 P 23 (lX9_innera_23 P r23) := by
  unfold lX9_innera_23
  refine sm_iload (pc := 23) (n := 5) dX9_inner_23 ?_
  refine sm_aload_n (pc := 25) (n := 0) dX9_inner_25 rfl ?_
  refine gf_X9_153 (pc := 26) rfl dX9_inner_26 ?_
  refine sm_icmpS_ge (pc := 29) (tgt := 75) dX9_inner_29 (by decide) ?_ ?_
  · skip
    refine sm_lload_n (pc := 75) (n := 3) dX9_inner_75 rfl ?_
    exact sm_lreturn (pc := 76) dX9_inner_76 rfl
  · skip
    refine sm_lload_n (pc := 32) (n := 3) dX9_inner_32 rfl ?_
    refine sm_aload_n (pc := 33) (n := 0) dX9_inner_33 rfl ?_
    refine gf_X9_115 (pc := 34) rfl dX9_inner_34 ?_
    refine sm_bipush (pc := 37) dX9_inner_37 zc_b_11 ?_
    refine sm_iload_n (pc := 39) (n := 1) dX9_inner_39 rfl ?_
    refine sm_imulR (pc := 40) dX9_inner_40 ?_
    refine sm_iload (pc := 41) (n := 5) dX9_inner_41 ?_
    refine sm_iaddR (pc := 43) dX9_inner_43 ?_
    refine sm_laload (pc := 44) dX9_inner_44 ?_
    refine sm_aload_n (pc := 45) (n := 0) dX9_inner_45 rfl ?_
    refine gf_X9_115 (pc := 46) rfl dX9_inner_46 ?_
    refine sm_bipush (pc := 49) dX9_inner_49 zc_b_11 ?_
    refine sm_iload_n (pc := 51) (n := 2) dX9_inner_51 rfl ?_
    refine sm_imulR (pc := 52) dX9_inner_52 ?_
    refine sm_iload (pc := 53) (n := 5) dX9_inner_53 ?_
    refine sm_iaddR (pc := 55) dX9_inner_55 ?_
    refine sm_laload (pc := 56) dX9_inner_56 ?_
    refine sm_lmul (pc := 57) dX9_inner_57 ?_
    refine sm_aload_n (pc := 58) (n := 0) dX9_inner_58 rfl ?_
    refine gf_X9_16 (pc := 59) rfl dX9_inner_59 ?_
    exact scX9_innera_62 P r23 hr23
noncomputable def b_X9_innera {d : Nat} (P : zP d) : zK d := (xild 1 (xcS 1 0 0 (zstr f_X9_isSlota) (xjoin (bX9_innera_14 P) (fun j14 => (xif0S teqR rlEq rhEq rlNe rhNe j14 (xild 2 (xcS 1 0 0 (zstr f_X9_isSlota) (xif0S teqR rlEq rhEq rlNe rhNe j14 (xpL 0 (xlst 3 (xpI 0 (xist 5 (xloop (fun r23 => (lX9_innera_23 P r23)) 100000)))))))))))))
set_option maxRecDepth 100000 in
set_option maxHeartbeats 4000000 in
theorem s_X9_innera {d : Nat} [zGh] (P : zP d) : zSim X_X9_inner 3 P 0 (b_X9_innera P) := by
  unfold b_X9_innera
  refine sm_iload_n (pc := 0) (n := 1) dX9_inner_0 rfl ?_
  refine sm_cS (pc := 1) (n := 1) (mc := 0) (ms := 0) (zMet_str m_X9_isSlota) (cr_X9_319 (X := X_X9_inner) (fr := 3) (frc := 2) (pc := 1) (mc := 0) (ms := 0) rfl (by decide) dX9_inner_1) ?_
  refine sm_joinJ (pc := 4) (pc' := 14) (j := 1) (fun G0 hG0 => @sbX9_innera_14 d G0 P) (fun j14 hj14 => ?_)
  refine sm_ifS_eq (pc := 4) (tgt := 14) dX9_inner_4 (by decide) ?_ ?_
  · skip
    exact hj14.use
  · skip
    refine sm_iload_n (pc := 7) (n := 2) dX9_inner_7 rfl ?_
    refine sm_cS (pc := 8) (n := 1) (mc := 0) (ms := 0) (zMet_str m_X9_isSlota) (cr_X9_319 (X := X_X9_inner) (fr := 3) (frc := 2) (pc := 8) (mc := 0) (ms := 0) rfl (by decide) dX9_inner_8) ?_
    refine sm_ifS_ne (pc := 11) (tgt := 18) dX9_inner_11 (by decide) ?_ ?_
    · skip
      refine sm_lconst (pc := 18) dX9_inner_18 zc_l_0 ?_
      refine sm_lstore_n (pc := 19) (n := 3) dX9_inner_19 rfl ?_
      refine sm_iconst (pc := 20) dX9_inner_20 zc_i_0 ?_
      refine sm_istore (pc := 21) (n := 5) dX9_inner_21 ?_
      exact (sm_loopJ (j := 1) (fun G1 hG1 r23 hr23 => @slX9_innera_23 d G1 P r23 hr23) _).use
    · skip
      exact hj14.use
noncomputable def f_X9_innera {d : Nat} : List zV → zH d → zP d → Bool := zfn 6 b_X9_innera
theorem m_X9_innera {d : Nat} : zMet (d := d) X_X9_inner yX9_inner 3 f_X9_innera := zmet_mk (X := X_X9_inner) (by decide) rfl rfl s_X9_innera

noncomputable def bX9_kinda_19 {d : Nat} (P : zP d) : zK d := (xpI 4294967295 (xiret P))
set_option maxRecDepth 100000 in
set_option maxHeartbeats 4000000 in
theorem sbX9_kinda_19 {d : Nat} [zGh] (P : zP d) : zSim X_X9_kind 3 P 19 (bX9_kinda_19 P) := by
  unfold bX9_kinda_19
  refine sm_iconst (pc := 19) dX9_kind_19 zc_i_m1 ?_
  exact sm_ireturn (pc := 20) dX9_kind_20 rfl
noncomputable def bX9_kinda_105 {d : Nat} (P : zP d) (r60 : zK d) : zK d := (xist 3 (xincR 4 1 r60))
set_option maxRecDepth 100000 in
set_option maxHeartbeats 4000000 in
theorem sbX9_kinda_105 {d : Nat} [zGh] (P : zP d) (r60 : zK d) (hr60 : zSimJ 1 X_X9_kind 3 P 60 r60) : zSim X_X9_kind 3 P 105 (bX9_kinda_105 P r60) := by
  unfold bX9_kinda_105
  refine sm_istore_n (pc := 105) (n := 3) dX9_kind_105 rfl ?_
  refine sm_iincR (pc := 106) (n := 4) dX9_kind_106 zc_i_1 ?_
  refine sm_goto (pc := 109) (tgt := 60) dX9_kind_109 (by decide) ?_
  exact hr60.use
noncomputable def bX9_kinda_104 {d : Nat} (P : zP d) (j105 : zK d) : zK d := (xpI 0 j105)
set_option maxRecDepth 100000 in
set_option maxHeartbeats 4000000 in
theorem sbX9_kinda_104 {d : Nat} [zGh] (P : zP d) (j105 : zK d) (hj105 : zSimJ 1 X_X9_kind 3 P 105 j105) : zSim X_X9_kind 3 P 104 (bX9_kinda_104 P j105) := by
  unfold bX9_kinda_104
  refine sm_iconst (pc := 104) dX9_kind_104 zc_i_0 ?_
  exact hj105.use
noncomputable def bX9_kinda_100 {d : Nat} (P : zP d) (j105 : zK d) : zK d := (xpI 1 j105)
set_option maxRecDepth 100000 in
set_option maxHeartbeats 4000000 in
theorem sbX9_kinda_100 {d : Nat} [zGh] (P : zP d) (j105 : zK d) (hj105 : zSimJ 1 X_X9_kind 3 P 105 j105) : zSim X_X9_kind 3 P 100 (bX9_kinda_100 P j105) := by
  unfold bX9_kinda_100
  refine sm_iconst (pc := 100) dX9_kind_100 zc_i_1 ?_
  refine sm_goto (pc := 101) (tgt := 105) dX9_kind_101 (by decide) ?_
  exact hj105.use
noncomputable def lX9_kinda_60 {d : Nat} (P : zP d) (r60 : zK d) : zK d := (xild 4 (xald 0 (xgfI 25 2 (xcmpS tgeR rlGe rhS rlS rhLt (xild 3 (xcS 1 0 0 (zstr f_X9_one) (xiret P))) (xild 3 (xjoin (bX9_kinda_105 P r60) (fun j105 => (xjoin (bX9_kinda_104 P j105) (fun j104 => (xif0S teqR rlEq rhEq rlNe rhNe j104 (xald 0 (xgfR 25 8 (xild 4 (xalQ 1 (xjoin (bX9_kinda_100 P j105) (fun j100 => (xif0S teqR rlEq rhEq rlNe rhNe (xald 0 (xgfR 25 43 (xpI 11 (xild 1 (xbin zmulR (xild 4 (xbin zaddR (xlal (xpL 0 (xlcmpR (xif0S teqR rlEq rhEq rlNe rhNe j100 j104))))))))))) j100)))))))))))))))))
set_option maxRecDepth 100000 in
set_option maxHeartbeats 4000000 in
theorem slX9_kinda_60 {d : Nat} [zGh] (P : zP d) (r60 : zK d) (hr60 : zSimJ 1 X_X9_kind 3 P 60 r60) : zSim X_X9_kind 3 P 60 (lX9_kinda_60 P r60) := by
  unfold lX9_kinda_60
  refine sm_iload (pc := 60) (n := 4) dX9_kind_60 ?_
  refine sm_aload_n (pc := 62) (n := 0) dX9_kind_62 rfl ?_
  refine gf_X9_153 (pc := 63) rfl dX9_kind_63 ?_
  refine sm_icmpS_ge (pc := 66) (tgt := 112) dX9_kind_66 (by decide) ?_ ?_
  · skip
    refine sm_iload_n (pc := 112) (n := 3) dX9_kind_112 rfl ?_
    refine sm_cS (pc := 113) (n := 1) (mc := 0) (ms := 0) (zMet_str m_X9_one) (cr_X9_187 (X := X_X9_kind) (fr := 3) (frc := 1) (pc := 113) (mc := 0) (ms := 0) rfl (by decide) dX9_kind_113) ?_
    exact sm_ireturn (pc := 116) dX9_kind_116 rfl
  · skip
    refine sm_iload_n (pc := 69) (n := 3) dX9_kind_69 rfl ?_
    refine sm_joinJ (pc := 70) (pc' := 105) (j := 1) (fun G0 hG0 => @sbX9_kinda_105 d G0 P r60 (hr60.mv hG0 (by decide))) (fun j105 hj105 => ?_)
    refine sm_joinJ (pc := 70) (pc' := 104) (j := 1) (fun G0 hG0 => @sbX9_kinda_104 d G0 P j105 (hj105.mv hG0 (by decide))) (fun j104 hj104 => ?_)
    refine sm_ifS_eq (pc := 70) (tgt := 104) dX9_kind_70 (by decide) ?_ ?_
    · skip
      exact hj104.use
    · skip
      refine sm_aload_n (pc := 73) (n := 0) dX9_kind_73 rfl ?_
      refine gf_X9_26 (pc := 74) rfl dX9_kind_74 ?_
      refine sm_iload (pc := 77) (n := 4) dX9_kind_77 ?_
      refine sm_baloadQ (pc := 79) dX9_kind_79 ?_
      refine sm_joinJ (pc := 80) (pc' := 100) (j := 1) (fun G0 hG0 => @sbX9_kinda_100 d G0 P j105 (hj105.mv hG0 (by decide))) (fun j100 hj100 => ?_)
      refine sm_ifS_ne (pc := 80) (tgt := 100) dX9_kind_80 (by decide) ?_ ?_
      · skip
        exact hj100.use
      · skip
        refine sm_aload_n (pc := 83) (n := 0) dX9_kind_83 rfl ?_
        refine gf_X9_115 (pc := 84) rfl dX9_kind_84 ?_
        refine sm_bipush (pc := 87) dX9_kind_87 zc_b_11 ?_
        refine sm_iload_n (pc := 89) (n := 1) dX9_kind_89 rfl ?_
        refine sm_imulR (pc := 90) dX9_kind_90 ?_
        refine sm_iload (pc := 91) (n := 4) dX9_kind_91 ?_
        refine sm_iaddR (pc := 93) dX9_kind_93 ?_
        refine sm_laload (pc := 94) dX9_kind_94 ?_
        refine sm_lconst (pc := 95) dX9_kind_95 zc_l_0 ?_
        refine sm_lcmpR (pc := 96) dX9_kind_96 ?_
        refine sm_ifS_ne (pc := 97) (tgt := 104) dX9_kind_97 (by decide) ?_ ?_
        · skip
          exact hj104.use
        · skip
          exact hj100.use
noncomputable def bX9_kinda_48 {d : Nat} (P : zP d) : zK d := (xcV 25 4 0 0 (zstr f_X9_areWhole) (xcS 1 0 0 (zstr f_X9_one) (xiret P)))
set_option maxRecDepth 100000 in
set_option maxHeartbeats 4000000 in
theorem sbX9_kinda_48 {d : Nat} [zGh] (P : zP d) : zSim X_X9_kind 3 P 48 (bX9_kinda_48 P) := by
  unfold bX9_kinda_48
  refine sm_cV (pc := 48) (ci := 9) (n := 4) (mc := 0) (ms := 0) rfl (zMet_str m_X9_areWhole) (cr_X9_343 (X := X_X9_kind) (fr := 3) (frc := 2) (pc := 48) (mc := 0) (ms := 0) rfl (by decide) dX9_kind_48) ?_
  refine sm_cS (pc := 51) (n := 1) (mc := 0) (ms := 0) (zMet_str m_X9_one) (cr_X9_187 (X := X_X9_kind) (fr := 3) (frc := 1) (pc := 51) (mc := 0) (ms := 0) rfl (by decide) dX9_kind_51) ?_
  exact sm_ireturn (pc := 54) dX9_kind_54 rfl
noncomputable def bX9_kinda_37 {d : Nat} (P : zP d) : zK d := (xild 2 (xpI 2 (xbinN zremR (xjoin (bX9_kinda_48 P) (fun j48 => (xif0S teqR rlEq rhEq rlNe rhNe (xpI 1 j48) (xpI 0 j48)))))))
set_option maxRecDepth 100000 in
set_option maxHeartbeats 4000000 in
theorem sbX9_kinda_37 {d : Nat} [zGh] (P : zP d) : zSim X_X9_kind 3 P 37 (bX9_kinda_37 P) := by
  unfold bX9_kinda_37
  refine sm_iload_n (pc := 37) (n := 2) dX9_kind_37 rfl ?_
  refine sm_iconst (pc := 38) dX9_kind_38 zc_i_2 ?_
  refine sm_iremR (pc := 39) dX9_kind_39 ?_
  refine sm_joinJ (pc := 40) (pc' := 48) (j := 1) (fun G0 hG0 => @sbX9_kinda_48 d G0 P) (fun j48 hj48 => ?_)
  refine sm_ifS_ne (pc := 40) (tgt := 47) dX9_kind_40 (by decide) ?_ ?_
  · skip
    refine sm_iconst (pc := 47) dX9_kind_47 zc_i_0 ?_
    exact hj48.use
  · skip
    refine sm_iconst (pc := 43) dX9_kind_43 zc_i_1 ?_
    refine sm_goto (pc := 44) (tgt := 48) dX9_kind_44 (by decide) ?_
    exact hj48.use
noncomputable def b_X9_kinda {d : Nat} (P : zP d) : zK d := (xild 1 (xcS 1 0 0 (zstr f_X9_isSlota) (xjoin (bX9_kinda_19 P) (fun j19 => (xif0S teqR rlEq rhEq rlNe rhNe j19 (xild 2 (xi2lR (xpL 0 (xpL 4 (xcS 3 0 0 (zstr f_X9_isIna) (xif0S teqR rlEq rhEq rlNe rhNe j19 (xild 2 (xif0S tleR rlS rhLe rlGt rhS (xpI 1 (xist 3 (xpI 0 (xist 4 (xloop (fun r60 => (lX9_kinda_60 P r60)) 100000))))) (xald 0 (xild 1 (xild 2 (xpI 2 (xjoin (bX9_kinda_37 P) (fun j37 => (xcmpS tleR rlS rhLe rlGt rhS (xpI 0 j37) (xpI 1 j37)))))))))))))))))))))
set_option maxRecDepth 100000 in
set_option maxHeartbeats 4000000 in
theorem s_X9_kinda {d : Nat} [zGh] (P : zP d) : zSim X_X9_kind 3 P 0 (b_X9_kinda P) := by
  unfold b_X9_kinda
  refine sm_iload_n (pc := 0) (n := 1) dX9_kind_0 rfl ?_
  refine sm_cS (pc := 1) (n := 1) (mc := 0) (ms := 0) (zMet_str m_X9_isSlota) (cr_X9_319 (X := X_X9_kind) (fr := 3) (frc := 2) (pc := 1) (mc := 0) (ms := 0) rfl (by decide) dX9_kind_1) ?_
  refine sm_joinJ (pc := 4) (pc' := 19) (j := 1) (fun G0 hG0 => @sbX9_kinda_19 d G0 P) (fun j19 hj19 => ?_)
  refine sm_ifS_eq (pc := 4) (tgt := 19) dX9_kind_4 (by decide) ?_ ?_
  · skip
    exact hj19.use
  · skip
    refine sm_iload_n (pc := 7) (n := 2) dX9_kind_7 rfl ?_
    refine sm_i2lR (pc := 8) dX9_kind_8 ?_
    refine sm_lconst (pc := 9) dX9_kind_9 zc_l_0 ?_
    refine sm_ldc2 (pc := 10) dX9_kind_10 wd_1337 zc_cl_4 ?_
    refine sm_cS (pc := 13) (n := 3) (mc := 0) (ms := 0) (zMet_str m_X9_isIna) (cr_X9_283 (X := X_X9_kind) (fr := 3) (frc := 1) (pc := 13) (mc := 0) (ms := 0) rfl (by decide) dX9_kind_13) ?_
    refine sm_ifS_ne (pc := 16) (tgt := 21) dX9_kind_16 (by decide) ?_ ?_
    · skip
      refine sm_iload_n (pc := 21) (n := 2) dX9_kind_21 rfl ?_
      refine sm_ifS_le (pc := 22) (tgt := 55) dX9_kind_22 (by decide) ?_ ?_
      · skip
        refine sm_iconst (pc := 55) dX9_kind_55 zc_i_1 ?_
        refine sm_istore_n (pc := 56) (n := 3) dX9_kind_56 rfl ?_
        refine sm_iconst (pc := 57) dX9_kind_57 zc_i_0 ?_
        refine sm_istore (pc := 58) (n := 4) dX9_kind_58 ?_
        exact (sm_loopJ (j := 1) (fun G1 hG1 r60 hr60 => @slX9_kinda_60 d G1 P r60 hr60) _).use
      · skip
        refine sm_aload_n (pc := 25) (n := 0) dX9_kind_25 rfl ?_
        refine sm_iload_n (pc := 26) (n := 1) dX9_kind_26 rfl ?_
        refine sm_iload_n (pc := 27) (n := 2) dX9_kind_27 rfl ?_
        refine sm_iconst (pc := 28) dX9_kind_28 zc_i_2 ?_
        refine sm_joinJ (pc := 29) (pc' := 37) (j := 1) (fun G0 hG0 => @sbX9_kinda_37 d G0 P) (fun j37 hj37 => ?_)
        refine sm_icmpS_le (pc := 29) (tgt := 36) dX9_kind_29 (by decide) ?_ ?_
        · skip
          refine sm_iconst (pc := 36) dX9_kind_36 zc_i_0 ?_
          exact hj37.use
        · skip
          refine sm_iconst (pc := 32) dX9_kind_32 zc_i_1 ?_
          refine sm_goto (pc := 33) (tgt := 37) dX9_kind_33 (by decide) ?_
          exact hj37.use
    · skip
      exact hj19.use
noncomputable def f_X9_kinda {d : Nat} : List zV → zH d → zP d → Bool := zfn 5 b_X9_kinda
theorem m_X9_kinda {d : Nat} : zMet (d := d) X_X9_kind yX9_kind 3 f_X9_kinda := zmet_mk (X := X_X9_kind) (by decide) rfl rfl s_X9_kinda

noncomputable def bX9_cuta_40 {d : Nat} (P : zP d) : zK d := (xpI 4294967295 (xiret P))
set_option maxRecDepth 100000 in
set_option maxHeartbeats 4000000 in
theorem sbX9_cuta_40 {d : Nat} [zGh] (P : zP d) : zSim X_X9_cut 3 P 40 (bX9_cuta_40 P) := by
  unfold bX9_cuta_40
  refine sm_iconst (pc := 40) dX9_cut_40 zc_i_m1 ?_
  exact sm_ireturn (pc := 41) dX9_cut_41 rfl
noncomputable def lX9_cuta_163 {d : Nat} (P : zP d) (r163 : zK d) : zK d := (xild 4 (xald 0 (xgfI 25 2 (xcmpS tgeR rlGe rhS rlS rhLt (xpI 0 (xiret P)) (xald 0 (xgfR 25 43 (xpI 11 (xild 3 (xbin zmulR (xild 4 (xbin zaddR (xald 0 (xgfR 25 44 (xild 4 (xlal (xlas (xincR 4 1 r163)))))))))))))))))
set_option maxRecDepth 100000 in
set_option maxHeartbeats 4000000 in
theorem slX9_cuta_163 {d : Nat} [zGh] (P : zP d) (r163 : zK d) (hr163 : zSimJ 1 X_X9_cut 3 P 163 r163) : zSim X_X9_cut 3 P 163 (lX9_cuta_163 P r163) := by
  unfold lX9_cuta_163
  refine sm_iload (pc := 163) (n := 4) dX9_cut_163 ?_
  refine sm_aload_n (pc := 165) (n := 0) dX9_cut_165 rfl ?_
  refine gf_X9_153 (pc := 166) rfl dX9_cut_166 ?_
  refine sm_icmpS_ge (pc := 169) (tgt := 197) dX9_cut_169 (by decide) ?_ ?_
  · skip
    refine sm_iconst (pc := 197) dX9_cut_197 zc_i_0 ?_
    exact sm_ireturn (pc := 198) dX9_cut_198 rfl
  · skip
    refine sm_aload_n (pc := 172) (n := 0) dX9_cut_172 rfl ?_
    refine gf_X9_115 (pc := 173) rfl dX9_cut_173 ?_
    refine sm_bipush (pc := 176) dX9_cut_176 zc_b_11 ?_
    refine sm_iload_n (pc := 178) (n := 3) dX9_cut_178 rfl ?_
    refine sm_imulR (pc := 179) dX9_cut_179 ?_
    refine sm_iload (pc := 180) (n := 4) dX9_cut_180 ?_
    refine sm_iaddR (pc := 182) dX9_cut_182 ?_
    refine sm_aload_n (pc := 183) (n := 0) dX9_cut_183 rfl ?_
    refine gf_X9_118 (pc := 184) rfl dX9_cut_184 ?_
    refine sm_iload (pc := 187) (n := 4) dX9_cut_187 ?_
    refine sm_laload (pc := 189) dX9_cut_189 ?_
    refine sm_lastore (pc := 190) dX9_cut_190 ?_
    refine sm_iincR (pc := 191) (n := 4) dX9_cut_191 zc_i_1 ?_
    refine sm_goto (pc := 194) (tgt := 163) dX9_cut_194 (by decide) ?_
    exact hr163.use
noncomputable def bX9_cuta_154 {d : Nat} (P : zP d) (r71 : zK d) : zK d := (xincR 4 1 r71)
set_option maxRecDepth 100000 in
set_option maxHeartbeats 4000000 in
theorem sbX9_cuta_154 {d : Nat} [zGh] (P : zP d) (r71 : zK d) (hr71 : zSimJ 1 X_X9_cut 3 P 71 r71) : zSim X_X9_cut 3 P 154 (bX9_cuta_154 P r71) := by
  unfold bX9_cuta_154
  refine sm_iincR (pc := 154) (n := 4) dX9_cut_154 zc_i_1 ?_
  refine sm_goto (pc := 157) (tgt := 71) dX9_cut_157 (by decide) ?_
  exact hr71.use
noncomputable def lX9_cuta_112 {d : Nat} (P : zP d) (j154 : zK d) (r112 : zK d) : zK d := (xild 7 (xald 0 (xgfI 25 2 (xcmpS tgeR rlGe rhS rlS rhLt j154 (xald 0 (xgfR 25 44 (xild 7 (xdup2 (xlal (xlld 5 (xald 0 (xgfR 25 14 (xpI 11 (xild 4 (xbin zmulR (xild 7 (xbin zaddR (xalQ 0 (xi2lR (xbinj zmulj (xbinj zaddj (xlas (xincR 7 1 r112)))))))))))))))))))))))
set_option maxRecDepth 100000 in
set_option maxHeartbeats 4000000 in
theorem slX9_cuta_112 {d : Nat} [zGh] (P : zP d) (j154 : zK d) (r112 : zK d) (hj154 : zSimJ 1 X_X9_cut 3 P 154 j154) (hr112 : zSimJ 1 X_X9_cut 3 P 112 r112) : zSim X_X9_cut 3 P 112 (lX9_cuta_112 P j154 r112) := by
  unfold lX9_cuta_112
  refine sm_iload (pc := 112) (n := 7) dX9_cut_112 ?_
  refine sm_aload_n (pc := 114) (n := 0) dX9_cut_114 rfl ?_
  refine gf_X9_153 (pc := 115) rfl dX9_cut_115 ?_
  refine sm_icmpS_ge (pc := 118) (tgt := 154) dX9_cut_118 (by decide) ?_ ?_
  · skip
    exact hj154.use
  · skip
    refine sm_aload_n (pc := 121) (n := 0) dX9_cut_121 rfl ?_
    refine gf_X9_118 (pc := 122) rfl dX9_cut_122 ?_
    refine sm_iload (pc := 125) (n := 7) dX9_cut_125 ?_
    refine sm_dup2 (pc := 127) dX9_cut_127 ?_
    refine sm_laload (pc := 128) dX9_cut_128 ?_
    refine sm_lload (pc := 129) (n := 5) dX9_cut_129 ?_
    refine sm_aload_n (pc := 131) (n := 0) dX9_cut_131 rfl ?_
    refine gf_X9_38 (pc := 132) rfl dX9_cut_132 ?_
    refine sm_bipush (pc := 135) dX9_cut_135 zc_b_11 ?_
    refine sm_iload (pc := 137) (n := 4) dX9_cut_137 ?_
    refine sm_imulR (pc := 139) dX9_cut_139 ?_
    refine sm_iload (pc := 140) (n := 7) dX9_cut_140 ?_
    refine sm_iaddR (pc := 142) dX9_cut_142 ?_
    refine sm_ialoadQ (pc := 143) dX9_cut_143 ?_
    refine sm_i2lR (pc := 144) dX9_cut_144 ?_
    refine sm_lmul (pc := 145) dX9_cut_145 ?_
    refine sm_ladd (pc := 146) dX9_cut_146 ?_
    refine sm_lastore (pc := 147) dX9_cut_147 ?_
    refine sm_iincR (pc := 148) (n := 7) dX9_cut_148 zc_i_1 ?_
    refine sm_goto (pc := 151) (tgt := 112) dX9_cut_151 (by decide) ?_
    exact hr112.use
noncomputable def lX9_cuta_71 {d : Nat} (P : zP d) (r71 : zK d) : zK d := (xild 4 (xald 0 (xgfI 25 2 (xcmpS tgeR rlGe rhS rlS rhLt (xpI 0 (xist 4 (xloop (fun r163 => (lX9_cuta_163 P r163)) 100000))) (xald 0 (xgfR 25 17 (xild 4 (xalQ 0 (xild 2 (xjoin (bX9_cuta_154 P r71) (fun j154 => (xcmpS teqR rlEq rhEq rlNe rhNe (xald 0 (xild 1 (xild 4 (xcV 25 3 0 0 (zstr f_X9_ordinarySum) (xald 0 (xgfI 25 12 (xi2lR (xbinjN zdivj (xlst 5 (xpI 0 (xist 7 (xloop (fun r112 => (lX9_cuta_112 P j154 r112)) 100000)))))))))))) j154))))))))))))
set_option maxRecDepth 100000 in
set_option maxHeartbeats 4000000 in
theorem slX9_cuta_71 {d : Nat} [zGh] (P : zP d) (r71 : zK d) (hr71 : zSimJ 1 X_X9_cut 3 P 71 r71) : zSim X_X9_cut 3 P 71 (lX9_cuta_71 P r71) := by
  unfold lX9_cuta_71
  refine sm_iload (pc := 71) (n := 4) dX9_cut_71 ?_
  refine sm_aload_n (pc := 73) (n := 0) dX9_cut_73 rfl ?_
  refine gf_X9_153 (pc := 74) rfl dX9_cut_74 ?_
  refine sm_icmpS_ge (pc := 77) (tgt := 160) dX9_cut_77 (by decide) ?_ ?_
  · skip
    refine sm_iconst (pc := 160) dX9_cut_160 zc_i_0 ?_
    refine sm_istore (pc := 161) (n := 4) dX9_cut_161 ?_
    exact (sm_loopJ (j := 1) (fun G1 hG1 r163 hr163 => @slX9_cuta_163 d G1 P r163 hr163) _).use
  · skip
    refine sm_aload_n (pc := 80) (n := 0) dX9_cut_80 rfl ?_
    refine gf_X9_47 (pc := 81) rfl dX9_cut_81 ?_
    refine sm_iload (pc := 84) (n := 4) dX9_cut_84 ?_
    refine sm_ialoadQ (pc := 86) dX9_cut_86 ?_
    refine sm_iload_n (pc := 87) (n := 2) dX9_cut_87 rfl ?_
    refine sm_joinJ (pc := 88) (pc' := 154) (j := 1) (fun G0 hG0 => @sbX9_cuta_154 d G0 P r71 (hr71.mv hG0 (by decide))) (fun j154 hj154 => ?_)
    refine sm_icmpS_eq (pc := 88) (tgt := 94) dX9_cut_88 (by decide) ?_ ?_
    · skip
      refine sm_aload_n (pc := 94) (n := 0) dX9_cut_94 rfl ?_
      refine sm_iload_n (pc := 95) (n := 1) dX9_cut_95 rfl ?_
      refine sm_iload (pc := 96) (n := 4) dX9_cut_96 ?_
      refine sm_cV (pc := 98) (ci := 9) (n := 3) (mc := 0) (ms := 0) rfl (zMet_str m_X9_ordinarySum) (cr_X9_328 (X := X_X9_cut) (fr := 3) (frc := 1) (pc := 98) (mc := 0) (ms := 0) rfl (by decide) dX9_cut_98) ?_
      refine sm_aload_n (pc := 101) (n := 0) dX9_cut_101 rfl ?_
      refine gf_X9_166 (pc := 102) rfl dX9_cut_102 ?_
      refine sm_i2lR (pc := 105) dX9_cut_105 ?_
      refine sm_ldiv (pc := 106) dX9_cut_106 ?_
      refine sm_lstore (pc := 107) (n := 5) dX9_cut_107 ?_
      refine sm_iconst (pc := 109) dX9_cut_109 zc_i_0 ?_
      refine sm_istore (pc := 110) (n := 7) dX9_cut_110 ?_
      exact (sm_loopJ (j := 1) (fun G1 hG1 r112 hr112 => @slX9_cuta_112 d G1 P j154 r112 (hj154.mv hG1 (by decide)) hr112) _).use
    · skip
      refine sm_goto (pc := 91) (tgt := 154) dX9_cut_91 (by decide) ?_
      exact hj154.use
noncomputable def lX9_cuta_45 {d : Nat} (P : zP d) (r45 : zK d) : zK d := (xild 4 (xald 0 (xgfI 25 2 (xcmpS tgeR rlGe rhS rlS rhLt (xpI 0 (xist 4 (xloop (fun r71 => (lX9_cuta_71 P r71)) 100000))) (xald 0 (xgfR 25 44 (xild 4 (xpL 0 (xlas (xincR 4 1 r45))))))))))
set_option maxRecDepth 100000 in
set_option maxHeartbeats 4000000 in
theorem slX9_cuta_45 {d : Nat} [zGh] (P : zP d) (r45 : zK d) (hr45 : zSimJ 1 X_X9_cut 3 P 45 r45) : zSim X_X9_cut 3 P 45 (lX9_cuta_45 P r45) := by
  unfold lX9_cuta_45
  refine sm_iload (pc := 45) (n := 4) dX9_cut_45 ?_
  refine sm_aload_n (pc := 47) (n := 0) dX9_cut_47 rfl ?_
  refine gf_X9_153 (pc := 48) rfl dX9_cut_48 ?_
  refine sm_icmpS_ge (pc := 51) (tgt := 68) dX9_cut_51 (by decide) ?_ ?_
  · skip
    refine sm_iconst (pc := 68) dX9_cut_68 zc_i_0 ?_
    refine sm_istore (pc := 69) (n := 4) dX9_cut_69 ?_
    exact (sm_loopJ (j := 1) (fun G1 hG1 r71 hr71 => @slX9_cuta_71 d G1 P r71 hr71) _).use
  · skip
    refine sm_aload_n (pc := 54) (n := 0) dX9_cut_54 rfl ?_
    refine gf_X9_118 (pc := 55) rfl dX9_cut_55 ?_
    refine sm_iload (pc := 58) (n := 4) dX9_cut_58 ?_
    refine sm_lconst (pc := 60) dX9_cut_60 zc_l_0 ?_
    refine sm_lastore (pc := 61) dX9_cut_61 ?_
    refine sm_iincR (pc := 62) (n := 4) dX9_cut_62 zc_i_1 ?_
    refine sm_goto (pc := 65) (tgt := 45) dX9_cut_65 (by decide) ?_
    exact hr45.use
noncomputable def b_X9_cuta {d : Nat} (P : zP d) : zK d := (xild 1 (xcS 1 0 0 (zstr f_X9_isSlota) (xjoin (bX9_cuta_40 P) (fun j40 => (xif0S teqR rlEq rhEq rlNe rhNe j40 (xild 3 (xcS 1 0 0 (zstr f_X9_isSlota) (xif0S teqR rlEq rhEq rlNe rhNe j40 (xild 2 (xi2lR (xpL 0 (xald 0 (xgfI 25 18 (xpI 1 (xbin zsubR (xi2lR (xcS 3 0 0 (zstr f_X9_isIna) (xif0S teqR rlEq rhEq rlNe rhNe j40 (xald 0 (xild 1 (xpI 0 (xpI 0 (xcV 25 4 0 0 (zstr f_X9_areWhole) (xif0S teqR rlEq rhEq rlNe rhNe j40 (xpI 0 (xist 4 (xloop (fun r45 => (lX9_cuta_45 P r45)) 100000)))))))))))))))))))))))))))
set_option maxRecDepth 100000 in
set_option maxHeartbeats 4000000 in
theorem s_X9_cuta {d : Nat} [zGh] (P : zP d) : zSim X_X9_cut 3 P 0 (b_X9_cuta P) := by
  unfold b_X9_cuta
  refine sm_iload_n (pc := 0) (n := 1) dX9_cut_0 rfl ?_
  refine sm_cS (pc := 1) (n := 1) (mc := 0) (ms := 0) (zMet_str m_X9_isSlota) (cr_X9_319 (X := X_X9_cut) (fr := 3) (frc := 2) (pc := 1) (mc := 0) (ms := 0) rfl (by decide) dX9_cut_1) ?_
  refine sm_joinJ (pc := 4) (pc' := 40) (j := 1) (fun G0 hG0 => @sbX9_cuta_40 d G0 P) (fun j40 hj40 => ?_)
  refine sm_ifS_eq (pc := 4) (tgt := 40) dX9_cut_4 (by decide) ?_ ?_
  · skip
    exact hj40.use
  · skip
    refine sm_iload_n (pc := 7) (n := 3) dX9_cut_7 rfl ?_
    refine sm_cS (pc := 8) (n := 1) (mc := 0) (ms := 0) (zMet_str m_X9_isSlota) (cr_X9_319 (X := X_X9_cut) (fr := 3) (frc := 2) (pc := 8) (mc := 0) (ms := 0) rfl (by decide) dX9_cut_8) ?_
    refine sm_ifS_eq (pc := 11) (tgt := 40) dX9_cut_11 (by decide) ?_ ?_
    · skip
      exact hj40.use
    · skip
      refine sm_iload_n (pc := 14) (n := 2) dX9_cut_14 rfl ?_
      refine sm_i2lR (pc := 15) dX9_cut_15 ?_
      refine sm_lconst (pc := 16) dX9_cut_16 zc_l_0 ?_
      refine sm_aload_n (pc := 17) (n := 0) dX9_cut_17 rfl ?_
      refine gf_X9_199 (pc := 18) rfl dX9_cut_18 ?_
      refine sm_iconst (pc := 21) dX9_cut_21 zc_i_1 ?_
      refine sm_isubR (pc := 22) dX9_cut_22 ?_
      refine sm_i2lR (pc := 23) dX9_cut_23 ?_
      refine sm_cS (pc := 24) (n := 3) (mc := 0) (ms := 0) (zMet_str m_X9_isIna) (cr_X9_283 (X := X_X9_cut) (fr := 3) (frc := 1) (pc := 24) (mc := 0) (ms := 0) rfl (by decide) dX9_cut_24) ?_
      refine sm_ifS_eq (pc := 27) (tgt := 40) dX9_cut_27 (by decide) ?_ ?_
      · skip
        exact hj40.use
      · skip
        refine sm_aload_n (pc := 30) (n := 0) dX9_cut_30 rfl ?_
        refine sm_iload_n (pc := 31) (n := 1) dX9_cut_31 rfl ?_
        refine sm_iconst (pc := 32) dX9_cut_32 zc_i_0 ?_
        refine sm_iconst (pc := 33) dX9_cut_33 zc_i_0 ?_
        refine sm_cV (pc := 34) (ci := 9) (n := 4) (mc := 0) (ms := 0) rfl (zMet_str m_X9_areWhole) (cr_X9_343 (X := X_X9_cut) (fr := 3) (frc := 2) (pc := 34) (mc := 0) (ms := 0) rfl (by decide) dX9_cut_34) ?_
        refine sm_ifS_ne (pc := 37) (tgt := 42) dX9_cut_37 (by decide) ?_ ?_
        · skip
          refine sm_iconst (pc := 42) dX9_cut_42 zc_i_0 ?_
          refine sm_istore (pc := 43) (n := 4) dX9_cut_43 ?_
          exact (sm_loopJ (j := 1) (fun G1 hG1 r45 hr45 => @slX9_cuta_45 d G1 P r45 hr45) _).use
        · skip
          exact hj40.use
noncomputable def f_X9_cuta {d : Nat} : List zV → zH d → zP d → Bool := zfn 8 b_X9_cuta
theorem m_X9_cuta {d : Nat} : zMet (d := d) X_X9_cut yX9_cut 3 f_X9_cuta := zmet_mk (X := X_X9_cut) (by decide) rfl rfl s_X9_cuta

noncomputable def bX9_looka_187 {d : Nat} (P : zP d) : zK d := (xpI 4294967295 (xiret P))
set_option maxRecDepth 100000 in
set_option maxHeartbeats 4000000 in
theorem sbX9_looka_187 {d : Nat} [zGh] (P : zP d) : zSim X_X9_look 2 P 187 (bX9_looka_187 P) := by
  unfold bX9_looka_187
  refine sm_iconst (pc := 187) dX9_look_187 zc_i_m1 ?_
  exact sm_ireturn (pc := 188) dX9_look_188 rfl
noncomputable def bX9_looka_148 {d : Nat} (P : zP d) : zK d := (xald 0 (xgfI 25 0 (xiret P)))
set_option maxRecDepth 100000 in
set_option maxHeartbeats 4000000 in
theorem sbX9_looka_148 {d : Nat} [zGh] (P : zP d) : zSim X_X9_look 2 P 148 (bX9_looka_148 P) := by
  unfold bX9_looka_148
  refine sm_aload_n (pc := 148) (n := 0) dX9_look_148 rfl ?_
  refine gf_X9_169 (pc := 149) rfl dX9_look_149 ?_
  exact sm_ireturn (pc := 152) dX9_look_152 rfl
noncomputable def bX9_looka_153 {d : Nat} (P : zP d) : zK d := (xald 0 (xgfI 25 1 (xiret P)))
set_option maxRecDepth 100000 in
set_option maxHeartbeats 4000000 in
theorem sbX9_looka_153 {d : Nat} [zGh] (P : zP d) : zSim X_X9_look 2 P 153 (bX9_looka_153 P) := by
  unfold bX9_looka_153
  refine sm_aload_n (pc := 153) (n := 0) dX9_look_153 rfl ?_
  refine gf_X9_184 (pc := 154) rfl dX9_look_154 ?_
  exact sm_ireturn (pc := 157) dX9_look_157 rfl
noncomputable def bX9_looka_158 {d : Nat} (P : zP d) : zK d := (xald 0 (xgfI 25 2 (xiret P)))
set_option maxRecDepth 100000 in
set_option maxHeartbeats 4000000 in
theorem sbX9_looka_158 {d : Nat} [zGh] (P : zP d) : zSim X_X9_look 2 P 158 (bX9_looka_158 P) := by
  unfold bX9_looka_158
  refine sm_aload_n (pc := 158) (n := 0) dX9_look_158 rfl ?_
  refine gf_X9_153 (pc := 159) rfl dX9_look_159 ?_
  exact sm_ireturn (pc := 162) dX9_look_162 rfl
noncomputable def bX9_looka_163 {d : Nat} (P : zP d) : zK d := (xald 0 (xgfI 25 11 (xiret P)))
set_option maxRecDepth 100000 in
set_option maxHeartbeats 4000000 in
theorem sbX9_looka_163 {d : Nat} [zGh] (P : zP d) : zSim X_X9_look 2 P 163 (bX9_looka_163 P) := by
  unfold bX9_looka_163
  refine sm_aload_n (pc := 163) (n := 0) dX9_look_163 rfl ?_
  refine gf_X9_172 (pc := 164) rfl dX9_look_164 ?_
  exact sm_ireturn (pc := 167) dX9_look_167 rfl
noncomputable def bX9_looka_168 {d : Nat} (P : zP d) : zK d := (xald 0 (xgfI 25 18 (xiret P)))
set_option maxRecDepth 100000 in
set_option maxHeartbeats 4000000 in
theorem sbX9_looka_168 {d : Nat} [zGh] (P : zP d) : zSim X_X9_look 2 P 168 (bX9_looka_168 P) := by
  unfold bX9_looka_168
  refine sm_aload_n (pc := 168) (n := 0) dX9_look_168 rfl ?_
  refine gf_X9_199 (pc := 169) rfl dX9_look_169 ?_
  exact sm_ireturn (pc := 172) dX9_look_172 rfl
noncomputable def bX9_looka_173 {d : Nat} (P : zP d) : zK d := (xald 0 (xgfI 25 12 (xiret P)))
set_option maxRecDepth 100000 in
set_option maxHeartbeats 4000000 in
theorem sbX9_looka_173 {d : Nat} [zGh] (P : zP d) : zSim X_X9_look 2 P 173 (bX9_looka_173 P) := by
  unfold bX9_looka_173
  refine sm_aload_n (pc := 173) (n := 0) dX9_look_173 rfl ?_
  refine gf_X9_166 (pc := 174) rfl dX9_look_174 ?_
  exact sm_ireturn (pc := 177) dX9_look_177 rfl
noncomputable def bX9_looka_178 {d : Nat} (P : zP d) : zK d := (xald 0 (xgfI 25 46 (xiret P)))
set_option maxRecDepth 100000 in
set_option maxHeartbeats 4000000 in
theorem sbX9_looka_178 {d : Nat} [zGh] (P : zP d) : zSim X_X9_look 2 P 178 (bX9_looka_178 P) := by
  unfold bX9_looka_178
  refine sm_aload_n (pc := 178) (n := 0) dX9_look_178 rfl ?_
  refine gf_X9_347 (pc := 179) rfl dX9_look_179 ?_
  exact sm_ireturn (pc := 182) dX9_look_182 rfl
noncomputable def bX9_looka_183 {d : Nat} (P : zP d) : zK d := (xild 2 (xiret P))
set_option maxRecDepth 100000 in
set_option maxHeartbeats 4000000 in
theorem sbX9_looka_183 {d : Nat} [zGh] (P : zP d) : zSim X_X9_look 2 P 183 (bX9_looka_183 P) := by
  unfold bX9_looka_183
  refine sm_iload_n (pc := 183) (n := 2) dX9_look_183 rfl ?_
  exact sm_ireturn (pc := 184) dX9_look_184 rfl
noncomputable def bX9_looka_185 {d : Nat} (P : zP d) : zK d := (xild 3 (xiret P))
set_option maxRecDepth 100000 in
set_option maxHeartbeats 4000000 in
theorem sbX9_looka_185 {d : Nat} [zGh] (P : zP d) : zSim X_X9_look 2 P 185 (bX9_looka_185 P) := by
  unfold bX9_looka_185
  refine sm_iload_n (pc := 185) (n := 3) dX9_look_185 rfl ?_
  exact sm_ireturn (pc := 186) dX9_look_186 rfl
noncomputable def bX9_looka_87 {d : Nat} (P : zP d) (r57 : zK d) : zK d := (xcS 1 0 0 (zstr f_X9_one) (xbin zaddR (xist 3 (xincR 4 1 r57))))
set_option maxRecDepth 100000 in
set_option maxHeartbeats 4000000 in
theorem sbX9_looka_87 {d : Nat} [zGh] (P : zP d) (r57 : zK d) (hr57 : zSimJ 1 X_X9_look 2 P 57 r57) : zSim X_X9_look 2 P 87 (bX9_looka_87 P r57) := by
  unfold bX9_looka_87
  refine sm_cS (pc := 87) (n := 1) (mc := 0) (ms := 0) (zMet_str m_X9_one) (cr_X9_187 (X := X_X9_look) (fr := 2) (frc := 1) (pc := 87) (mc := 0) (ms := 0) rfl (by decide) dX9_look_87) ?_
  refine sm_iaddR (pc := 90) dX9_look_90 ?_
  refine sm_istore_n (pc := 91) (n := 3) dX9_look_91 rfl ?_
  refine sm_iincR (pc := 92) (n := 4) dX9_look_92 zc_i_1 ?_
  refine sm_goto (pc := 95) (tgt := 57) dX9_look_95 (by decide) ?_
  exact hr57.use
noncomputable def lX9_looka_57 {d : Nat} (P : zP d) (r57 : zK d) : zK d := (xild 4 (xald 0 (xgfI 25 18 (xcmpS tgeR rlGe rhS rlS rhLt (xild 1 (xtswR 8 [(bX9_looka_148 P), (bX9_looka_153 P), (bX9_looka_158 P), (bX9_looka_163 P), (bX9_looka_168 P), (bX9_looka_173 P), (bX9_looka_178 P), (bX9_looka_183 P), (bX9_looka_185 P)] (bX9_looka_187 P))) (xild 3 (xald 0 (xgfR 25 15 (xald 0 (xgfR 25 19 (xild 4 (xalQ 0 (xalQ 0 (xjoin (bX9_looka_87 P r57) (fun j87 => (xif0S teqR rlEq rhEq rlNe rhNe (xpI 1 j87) (xpI 0 j87))))))))))))))))
set_option maxRecDepth 100000 in
set_option maxHeartbeats 4000000 in
theorem slX9_looka_57 {d : Nat} [zGh] (P : zP d) (r57 : zK d) (hr57 : zSimJ 1 X_X9_look 2 P 57 r57) : zSim X_X9_look 2 P 57 (lX9_looka_57 P r57) := by
  unfold lX9_looka_57
  refine sm_iload (pc := 57) (n := 4) dX9_look_57 ?_
  refine sm_aload_n (pc := 59) (n := 0) dX9_look_59 rfl ?_
  refine gf_X9_199 (pc := 60) rfl dX9_look_60 ?_
  refine sm_icmpS_ge (pc := 63) (tgt := 98) dX9_look_63 (by decide) ?_ ?_
  · skip
    refine sm_iload_n (pc := 98) (n := 1) dX9_look_98 rfl ?_
    exact sm_tswR (pc := 99) (n := 8) (tdf := 187) [148, 153, 158, 163, 168, 173, 178, 183, 185] rfl (by decide) dX9_look_99 rfl (by decide +kernel) (by decide) (sbX9_looka_187 P) ⟨sbX9_looka_148 P, sbX9_looka_153 P, sbX9_looka_158 P, sbX9_looka_163 P, sbX9_looka_168 P, sbX9_looka_173 P, sbX9_looka_178 P, sbX9_looka_183 P, sbX9_looka_185 P, trivial⟩
  · skip
    refine sm_iload_n (pc := 66) (n := 3) dX9_look_66 rfl ?_
    refine sm_aload_n (pc := 67) (n := 0) dX9_look_67 rfl ?_
    refine gf_X9_41 (pc := 68) rfl dX9_look_68 ?_
    refine sm_aload_n (pc := 71) (n := 0) dX9_look_71 rfl ?_
    refine gf_X9_50 (pc := 72) rfl dX9_look_72 ?_
    refine sm_iload (pc := 75) (n := 4) dX9_look_75 ?_
    refine sm_ialoadQ (pc := 77) dX9_look_77 ?_
    refine sm_ialoadQ (pc := 78) dX9_look_78 ?_
    refine sm_joinJ (pc := 79) (pc' := 87) (j := 1) (fun G0 hG0 => @sbX9_looka_87 d G0 P r57 (hr57.mv hG0 (by decide))) (fun j87 hj87 => ?_)
    refine sm_ifS_ne (pc := 79) (tgt := 86) dX9_look_79 (by decide) ?_ ?_
    · skip
      refine sm_iconst (pc := 86) dX9_look_86 zc_i_0 ?_
      exact hj87.use
    · skip
      refine sm_iconst (pc := 82) dX9_look_82 zc_i_1 ?_
      refine sm_goto (pc := 83) (tgt := 87) dX9_look_83 (by decide) ?_
      exact hj87.use
noncomputable def bX9_looka_48 {d : Nat} (P : zP d) (r7 : zK d) : zK d := (xincR 4 1 r7)
set_option maxRecDepth 100000 in
set_option maxHeartbeats 4000000 in
theorem sbX9_looka_48 {d : Nat} [zGh] (P : zP d) (r7 : zK d) (hr7 : zSimJ 1 X_X9_look 2 P 7 r7) : zSim X_X9_look 2 P 48 (bX9_looka_48 P r7) := by
  unfold bX9_looka_48
  refine sm_iincR (pc := 48) (n := 4) dX9_look_48 zc_i_1 ?_
  refine sm_goto (pc := 51) (tgt := 7) dX9_look_51 (by decide) ?_
  exact hr7.use
noncomputable def lX9_looka_7 {d : Nat} (P : zP d) (r7 : zK d) : zK d := (xild 4 (xpI 66 (xcmpS tgeR rlGe rhS rlS rhLt (xpI 0 (xist 4 (xloop (fun r57 => (lX9_looka_57 P r57)) 100000))) (xild 4 (xpI 11 (xbinN zremR (xald 0 (xgfI 25 2 (xjoin (bX9_looka_48 P r7) (fun j48 => (xcmpS tgeR rlGe rhS rlS rhLt j48 (xald 0 (xgfR 25 43 (xild 4 (xlal (xpL 0 (xlcmpR (xif0S teqR rlEq rhEq rlNe rhNe j48 (xild 2 (xpI 1 (xild 4 (xpI 11 (xbinN zdivR (xbin zshl (xbin zor (xist 2 j48))))))))))))))))))))))))))
set_option maxRecDepth 100000 in
set_option maxHeartbeats 4000000 in
theorem slX9_looka_7 {d : Nat} [zGh] (P : zP d) (r7 : zK d) (hr7 : zSimJ 1 X_X9_look 2 P 7 r7) : zSim X_X9_look 2 P 7 (lX9_looka_7 P r7) := by
  unfold lX9_looka_7
  refine sm_iload (pc := 7) (n := 4) dX9_look_7 ?_
  refine sm_bipush (pc := 9) dX9_look_9 zc_b_66 ?_
  refine sm_icmpS_ge (pc := 11) (tgt := 54) dX9_look_11 (by decide) ?_ ?_
  · skip
    refine sm_iconst (pc := 54) dX9_look_54 zc_i_0 ?_
    refine sm_istore (pc := 55) (n := 4) dX9_look_55 ?_
    exact (sm_loopJ (j := 1) (fun G1 hG1 r57 hr57 => @slX9_looka_57 d G1 P r57 hr57) _).use
  · skip
    refine sm_iload (pc := 14) (n := 4) dX9_look_14 ?_
    refine sm_bipush (pc := 16) dX9_look_16 zc_b_11 ?_
    refine sm_iremR (pc := 18) dX9_look_18 ?_
    refine sm_aload_n (pc := 19) (n := 0) dX9_look_19 rfl ?_
    refine gf_X9_153 (pc := 20) rfl dX9_look_20 ?_
    refine sm_joinJ (pc := 23) (pc' := 48) (j := 1) (fun G0 hG0 => @sbX9_looka_48 d G0 P r7 (hr7.mv hG0 (by decide))) (fun j48 hj48 => ?_)
    refine sm_icmpS_ge (pc := 23) (tgt := 48) dX9_look_23 (by decide) ?_ ?_
    · skip
      exact hj48.use
    · skip
      refine sm_aload_n (pc := 26) (n := 0) dX9_look_26 rfl ?_
      refine gf_X9_115 (pc := 27) rfl dX9_look_27 ?_
      refine sm_iload (pc := 30) (n := 4) dX9_look_30 ?_
      refine sm_laload (pc := 32) dX9_look_32 ?_
      refine sm_lconst (pc := 33) dX9_look_33 zc_l_0 ?_
      refine sm_lcmpR (pc := 34) dX9_look_34 ?_
      refine sm_ifS_eq (pc := 35) (tgt := 48) dX9_look_35 (by decide) ?_ ?_
      · skip
        exact hj48.use
      · skip
        refine sm_iload_n (pc := 38) (n := 2) dX9_look_38 rfl ?_
        refine sm_iconst (pc := 39) dX9_look_39 zc_i_1 ?_
        refine sm_iload (pc := 40) (n := 4) dX9_look_40 ?_
        refine sm_bipush (pc := 42) dX9_look_42 zc_b_11 ?_
        refine sm_idivR (pc := 44) dX9_look_44 ?_
        refine sm_ishl (pc := 45) dX9_look_45 ?_
        refine sm_ior (pc := 46) dX9_look_46 ?_
        refine sm_istore_n (pc := 47) (n := 2) dX9_look_47 rfl ?_
        exact hj48.use
noncomputable def b_X9_looka {d : Nat} (P : zP d) : zK d := (xpI 0 (xist 2 (xpI 0 (xist 3 (xpI 0 (xist 4 (xloop (fun r7 => (lX9_looka_7 P r7)) 100000)))))))
set_option maxRecDepth 100000 in
set_option maxHeartbeats 4000000 in
theorem s_X9_looka {d : Nat} [zGh] (P : zP d) : zSim X_X9_look 2 P 0 (b_X9_looka P) := by
  unfold b_X9_looka
  refine sm_iconst (pc := 0) dX9_look_0 zc_i_0 ?_
  refine sm_istore_n (pc := 1) (n := 2) dX9_look_1 rfl ?_
  refine sm_iconst (pc := 2) dX9_look_2 zc_i_0 ?_
  refine sm_istore_n (pc := 3) (n := 3) dX9_look_3 rfl ?_
  refine sm_iconst (pc := 4) dX9_look_4 zc_i_0 ?_
  refine sm_istore (pc := 5) (n := 4) dX9_look_5 ?_
  exact (sm_loopJ (j := 1) (fun G1 hG1 r7 hr7 => @slX9_looka_7 d G1 P r7 hr7) _).use
noncomputable def f_X9_looka {d : Nat} : List zV → zH d → zP d → Bool := zfn 5 b_X9_looka
theorem m_X9_looka {d : Nat} : zMet (d := d) X_X9_look yX9_look 2 f_X9_looka := zmet_mk (X := X_X9_look) (by decide) rfl rfl s_X9_looka
