/-! the class reads: by program -/
theorem gfT_X2_60 [zGh] {d : Nat} {X : zM} {fr : Nat} {P : zP d} {pc : Nat} {k : zK d} (h1 : X.1 = RX2) (dg : decode X.2.1 pc = .ok (.getfield 60, 3)) (hs : zSim X fr P (pc + 3) k) : zSim X fr P pc (xgfT 18 14 k) := sm_getfieldT (ci := 2) (n := 14) (C := RX2) (T := TX2) (N := 15) rfl rfl inz2 rfl (by decide) rfl (by rw [h1]; exact wd_586) rfl dg hs
noncomputable def bX2_isDigitt_17 {d : Nat} (P : zP d) : zK d := (xzret P)
set_option maxRecDepth 100000 in
set_option maxHeartbeats 4000000 in
theorem sbX2_isDigitt_17 {d : Nat} [zGh] (P : zP d) : zSim X_X2_isDigit 1 P 17 (bX2_isDigitt_17 P) := by
  unfold bX2_isDigitt_17
  exact sm_zreturn (pc := 17) dX2_isDigit_17 rfl
noncomputable def bX2_isDigitt_16 {d : Nat} (P : zP d) (j17 : zK d) : zK d := (xpI 0 j17)
set_option maxRecDepth 100000 in
set_option maxHeartbeats 4000000 in
theorem sbX2_isDigitt_16 {d : Nat} [zGh] (P : zP d) (j17 : zK d) (hj17 : zSimJ 1 X_X2_isDigit 1 P 17 j17) : zSim X_X2_isDigit 1 P 16 (bX2_isDigitt_16 P j17) := by
  unfold bX2_isDigitt_16
  refine sm_iconst (pc := 16) dX2_isDigit_16 zc_i_0 ?_
  exact hj17.use
noncomputable def b_X2_isDigitt {d : Nat} (P : zP d) : zK d := (xild 0 (xpI 48 (xjoin (bX2_isDigitt_17 P) (fun j17 => (xjoin (bX2_isDigitt_16 P j17) (fun j16 => (xcmpS tgeR rlGe rhS rlS rhLt (xild 0 (xpI 57 (xcmpS tleR rlS rhLe rlGt rhS (xpI 1 j17) j16))) j16)))))))
set_option maxRecDepth 100000 in
set_option maxHeartbeats 4000000 in
theorem s_X2_isDigitt {d : Nat} [zGh] (P : zP d) : zSim X_X2_isDigit 1 P 0 (b_X2_isDigitt P) := by
  unfold b_X2_isDigitt
  refine sm_iload_n (pc := 0) (n := 0) dX2_isDigit_0 rfl ?_
  refine sm_bipush (pc := 1) dX2_isDigit_1 zc_b_48 ?_
  refine sm_joinJ (pc := 3) (pc' := 17) (j := 1) (fun G0 hG0 => @sbX2_isDigitt_17 d G0 P) (fun j17 hj17 => ?_)
  refine sm_joinJ (pc := 3) (pc' := 16) (j := 1) (fun G0 hG0 => @sbX2_isDigitt_16 d G0 P j17 (hj17.mv hG0 (by decide))) (fun j16 hj16 => ?_)
  refine sm_icmpS_lt (pc := 3) (tgt := 16) dX2_isDigit_3 (by decide) ?_ ?_
  · skip
    exact hj16.use
  · skip
    refine sm_iload_n (pc := 6) (n := 0) dX2_isDigit_6 rfl ?_
    refine sm_bipush (pc := 7) dX2_isDigit_7 zc_b_57 ?_
    refine sm_icmpS_gt (pc := 9) (tgt := 16) dX2_isDigit_9 (by decide) ?_ ?_
    · skip
      exact hj16.use
    · skip
      refine sm_iconst (pc := 12) dX2_isDigit_12 zc_i_1 ?_
      refine sm_goto (pc := 13) (tgt := 17) dX2_isDigit_13 (by decide) ?_
      exact hj17.use
noncomputable def f_X2_isDigitt {d : Nat} : List zV → zH d → zP d → Bool := zfn 1 (b_X2_isDigitt )
theorem m_X2_isDigitt {d : Nat} : zMet (d := d) X_X2_isDigit yX2_isDigit 1 (f_X2_isDigitt ) := zmet_mk (X := X_X2_isDigit) (by decide) rfl rfl (fun P => s_X2_isDigitt P)

noncomputable def b_X1_cleart {d : Nat} (P : zP d) : zK d := (xaldV 0 (xpI 0 (xpfI 17 0 (xaldV 0 (xpI 4294967295 (xpfI 17 1 (xaldV 0 (xpI 0 (xpfI 17 3 (xvret P))))))))))
set_option maxRecDepth 100000 in
set_option maxHeartbeats 4000000 in
theorem s_X1_cleart {d : Nat} [zGh] (P : zP d) : zSim X_X1_clear 1 P 0 (b_X1_cleart P) := by
  unfold b_X1_cleart
  refine sm_aloadV_n (pc := 0) (n := 0) dX1_clear_0 rfl ?_
  refine sm_iconst (pc := 1) dX1_clear_1 zc_i_0 ?_
  refine pf_X1_21 (pc := 2) rfl dX1_clear_2 ?_
  refine sm_aloadV_n (pc := 5) (n := 0) dX1_clear_5 rfl ?_
  refine sm_iconst (pc := 6) dX1_clear_6 zc_i_m1 ?_
  refine pf_X1_9 (pc := 7) rfl dX1_clear_7 ?_
  refine sm_aloadV_n (pc := 10) (n := 0) dX1_clear_10 rfl ?_
  refine sm_iconst (pc := 11) dX1_clear_11 zc_i_0 ?_
  refine pf_X1_24 (pc := 12) rfl dX1_clear_12 ?_
  exact sm_vreturn (pc := 15) dX1_clear_15 rfl
noncomputable def f_X1_cleart {d : Nat} : List zV → zH d → zP d → Bool := zfn 1 (b_X1_cleart )
theorem m_X1_cleart {d : Nat} : zMet (d := d) X_X1_clear yX1_clear 1 (f_X1_cleart ) := zmet_mk (X := X_X1_clear) (by decide) rfl rfl (fun P => s_X1_cleart P)

noncomputable def b_X1_tellt {d : Nat} (P : zP d) : zK d := (xaldV 0 (xild 1 (xpfI 17 0 (xaldV 0 (xild 2 (xpfI 17 1 (xaldV 0 (xpI 0 (xpfI 17 3 (xvret P))))))))))
set_option maxRecDepth 100000 in
set_option maxHeartbeats 4000000 in
theorem s_X1_tellt {d : Nat} [zGh] (P : zP d) : zSim X_X1_tell 1 P 0 (b_X1_tellt P) := by
  unfold b_X1_tellt
  refine sm_aloadV_n (pc := 0) (n := 0) dX1_tell_0 rfl ?_
  refine sm_iload_n (pc := 1) (n := 1) dX1_tell_1 rfl ?_
  refine pf_X1_21 (pc := 2) rfl dX1_tell_2 ?_
  refine sm_aloadV_n (pc := 5) (n := 0) dX1_tell_5 rfl ?_
  refine sm_iload_n (pc := 6) (n := 2) dX1_tell_6 rfl ?_
  refine pf_X1_9 (pc := 7) rfl dX1_tell_7 ?_
  refine sm_aloadV_n (pc := 10) (n := 0) dX1_tell_10 rfl ?_
  refine sm_iconst (pc := 11) dX1_tell_11 zc_i_0 ?_
  refine pf_X1_24 (pc := 12) rfl dX1_tell_12 ?_
  exact sm_vreturn (pc := 15) dX1_tell_15 rfl
noncomputable def f_X1_tellt {d : Nat} : List zV → zH d → zP d → Bool := zfn 3 (b_X1_tellt )
theorem m_X1_tellt {d : Nat} : zMet (d := d) X_X1_tell yX1_tell 1 (f_X1_tellt ) := zmet_mk (X := X_X1_tell) (by decide) rfl rfl (fun P => s_X1_tellt P)

noncomputable def bX1_addWithint_32 {d : Nat} (P : zP d) : zK d := (xvret P)
set_option maxRecDepth 100000 in
set_option maxHeartbeats 4000000 in
theorem sbX1_addWithint_32 {d : Nat} [zGh] (P : zP d) : zSim X_X1_addWithin 1 P 32 (bX1_addWithint_32 P) := by
  unfold bX1_addWithint_32
  exact sm_vreturn (pc := 32) dX1_addWithin_32 rfl
noncomputable def b_X1_addWithint {d : Nat} (P : zP d) : zK d := (xaldV 0 (xgfI 17 3 (xaldV 0 (xgfR 17 2 (xlen (xjoin (bX1_addWithint_32 P) (fun j32 => (xcmpS tgeR rlGe rhS rlS rhLt j32 (xaldV 0 (xgfR 17 2 (xaldV 0 (xgfI 17 3 (xild 1 (xasQ 0 (fun v => v) (xaldV 0 (xdup (xgfI 17 3 (xpI 1 (xbin zaddR (xpfI 17 3 j32))))))))))))))))))))
set_option maxRecDepth 100000 in
set_option maxHeartbeats 4000000 in
theorem s_X1_addWithint {d : Nat} [zGh] (P : zP d) : zSim X_X1_addWithin 1 P 0 (b_X1_addWithint P) := by
  unfold b_X1_addWithint
  refine sm_aloadV_n (pc := 0) (n := 0) dX1_addWithin_0 rfl ?_
  refine gf_X1_24 (pc := 1) rfl dX1_addWithin_1 ?_
  refine sm_aloadV_n (pc := 4) (n := 0) dX1_addWithin_4 rfl ?_
  refine gf_X1_17 (pc := 5) rfl dX1_addWithin_5 ?_
  refine sm_arraylength (pc := 8) dX1_addWithin_8 ?_
  refine sm_joinJ (pc := 9) (pc' := 32) (j := 1) (fun G0 hG0 => @sbX1_addWithint_32 d G0 P) (fun j32 hj32 => ?_)
  refine sm_icmpS_ge (pc := 9) (tgt := 32) dX1_addWithin_9 (by decide) ?_ ?_
  · skip
    exact hj32.use
  · skip
    refine sm_aloadV_n (pc := 12) (n := 0) dX1_addWithin_12 rfl ?_
    refine gf_X1_17 (pc := 13) rfl dX1_addWithin_13 ?_
    refine sm_aloadV_n (pc := 16) (n := 0) dX1_addWithin_16 rfl ?_
    refine gf_X1_24 (pc := 17) rfl dX1_addWithin_17 ?_
    refine sm_iload_n (pc := 20) (n := 1) dX1_addWithin_20 rfl ?_
    refine sm_iastoreQ (pc := 21) dX1_addWithin_21 ?_
    refine sm_aloadV_n (pc := 22) (n := 0) dX1_addWithin_22 rfl ?_
    refine sm_dup (pc := 23) dX1_addWithin_23 ?_
    refine gf_X1_24 (pc := 24) rfl dX1_addWithin_24 ?_
    refine sm_iconst (pc := 27) dX1_addWithin_27 zc_i_1 ?_
    refine sm_iaddR (pc := 28) dX1_addWithin_28 ?_
    refine pf_X1_24 (pc := 29) rfl dX1_addWithin_29 ?_
    exact hj32.use
noncomputable def f_X1_addWithint {d : Nat} : List zV → zH d → zP d → Bool := zfn 2 (b_X1_addWithint )
theorem m_X1_addWithint {d : Nat} : zMet (d := d) X_X1_addWithin yX1_addWithin 1 (f_X1_addWithint ) := zmet_mk (X := X_X1_addWithin) (by decide) rfl rfl (fun P => s_X1_addWithint P)

noncomputable def bX8_isSlott_15 {d : Nat} (P : zP d) : zK d := (xzret P)
set_option maxRecDepth 100000 in
set_option maxHeartbeats 4000000 in
theorem sbX8_isSlott_15 {d : Nat} [zGh] (P : zP d) : zSim X_X8_isSlot 1 P 15 (bX8_isSlott_15 P) := by
  unfold bX8_isSlott_15
  exact sm_zreturn (pc := 15) dX8_isSlot_15 rfl
noncomputable def bX8_isSlott_14 {d : Nat} (P : zP d) (j15 : zK d) : zK d := (xpI 0 j15)
set_option maxRecDepth 100000 in
set_option maxHeartbeats 4000000 in
theorem sbX8_isSlott_14 {d : Nat} [zGh] (P : zP d) (j15 : zK d) (hj15 : zSimJ 1 X_X8_isSlot 1 P 15 j15) : zSim X_X8_isSlot 1 P 14 (bX8_isSlott_14 P j15) := by
  unfold bX8_isSlott_14
  refine sm_iconst (pc := 14) dX8_isSlot_14 zc_i_0 ?_
  exact hj15.use
noncomputable def b_X8_isSlott {d : Nat} (P : zP d) : zK d := (xild 0 (xjoin (bX8_isSlott_15 P) (fun j15 => (xjoin (bX8_isSlott_14 P j15) (fun j14 => (xif0S tgeR rlGe rhS rlS rhLt (xild 0 (xpI 6 (xcmpS tgeR rlGe rhS rlS rhLt j14 (xpI 1 j15)))) j14))))))
set_option maxRecDepth 100000 in
set_option maxHeartbeats 4000000 in
theorem s_X8_isSlott {d : Nat} [zGh] (P : zP d) : zSim X_X8_isSlot 1 P 0 (b_X8_isSlott P) := by
  unfold b_X8_isSlott
  refine sm_iload_n (pc := 0) (n := 0) dX8_isSlot_0 rfl ?_
  refine sm_joinJ (pc := 1) (pc' := 15) (j := 1) (fun G0 hG0 => @sbX8_isSlott_15 d G0 P) (fun j15 hj15 => ?_)
  refine sm_joinJ (pc := 1) (pc' := 14) (j := 1) (fun G0 hG0 => @sbX8_isSlott_14 d G0 P j15 (hj15.mv hG0 (by decide))) (fun j14 hj14 => ?_)
  refine sm_ifS_lt (pc := 1) (tgt := 14) dX8_isSlot_1 (by decide) ?_ ?_
  · skip
    exact hj14.use
  · skip
    refine sm_iload_n (pc := 4) (n := 0) dX8_isSlot_4 rfl ?_
    refine sm_bipush (pc := 5) dX8_isSlot_5 zc_b_6 ?_
    refine sm_icmpS_ge (pc := 7) (tgt := 14) dX8_isSlot_7 (by decide) ?_ ?_
    · skip
      exact hj14.use
    · skip
      refine sm_iconst (pc := 10) dX8_isSlot_10 zc_i_1 ?_
      refine sm_goto (pc := 11) (tgt := 15) dX8_isSlot_11 (by decide) ?_
      exact hj15.use
noncomputable def f_X8_isSlott {d : Nat} : List zV → zH d → zP d → Bool := zfn 1 (b_X8_isSlott )
theorem m_X8_isSlott {d : Nat} : zMet (d := d) X_X8_isSlot yX8_isSlot 1 (f_X8_isSlott ) := zmet_mk (X := X_X8_isSlot) (by decide) rfl rfl (fun P => s_X8_isSlott P)

noncomputable def bX5_isRegulart_15 {d : Nat} (P : zP d) : zK d := (xzret P)
set_option maxRecDepth 100000 in
set_option maxHeartbeats 4000000 in
theorem sbX5_isRegulart_15 {d : Nat} [zGh] (P : zP d) : zSim X_X5_isRegular 1 P 15 (bX5_isRegulart_15 P) := by
  unfold bX5_isRegulart_15
  exact sm_zreturn (pc := 15) dX5_isRegular_15 rfl
noncomputable def b_X5_isRegulart {d : Nat} (P : zP d) : zK d := (xaldV 0 (xgfR 21 2 (xild 1 (xalQ 0 (xpI 4294967295 (xjoin (bX5_isRegulart_15 P) (fun j15 => (xcmpS teqR rlEq rhEq rlNe rhNe (xpI 0 j15) (xpI 1 j15)))))))))
set_option maxRecDepth 100000 in
set_option maxHeartbeats 4000000 in
theorem s_X5_isRegulart {d : Nat} [zGh] (P : zP d) : zSim X_X5_isRegular 1 P 0 (b_X5_isRegulart P) := by
  unfold b_X5_isRegulart
  refine sm_aloadV_n (pc := 0) (n := 0) dX5_isRegular_0 rfl ?_
  refine gf_X5_24 (pc := 1) rfl dX5_isRegular_1 ?_
  refine sm_iload_n (pc := 4) (n := 1) dX5_isRegular_4 rfl ?_
  refine sm_ialoadQ (pc := 5) dX5_isRegular_5 ?_
  refine sm_iconst (pc := 6) dX5_isRegular_6 zc_i_m1 ?_
  refine sm_joinJ (pc := 7) (pc' := 15) (j := 1) (fun G0 hG0 => @sbX5_isRegulart_15 d G0 P) (fun j15 hj15 => ?_)
  refine sm_icmpS_eq (pc := 7) (tgt := 14) dX5_isRegular_7 (by decide) ?_ ?_
  · skip
    refine sm_iconst (pc := 14) dX5_isRegular_14 zc_i_0 ?_
    exact hj15.use
  · skip
    refine sm_iconst (pc := 10) dX5_isRegular_10 zc_i_1 ?_
    refine sm_goto (pc := 11) (tgt := 15) dX5_isRegular_11 (by decide) ?_
    exact hj15.use
noncomputable def f_X5_isRegulart {d : Nat} : List zV → zH d → zP d → Bool := zfn 2 (b_X5_isRegulart )
theorem m_X5_isRegulart {d : Nat} : zMet (d := d) X_X5_isRegular yX5_isRegular 1 (f_X5_isRegulart ) := zmet_mk (X := X_X5_isRegular) (by decide) rfl rfl (fun P => s_X5_isRegulart P)

noncomputable def uX2_nextt_58 {d : Nat} (P : zP d) (r0 : zK d) : zK d := r0
set_option maxRecDepth 100000 in
set_option maxHeartbeats 4000000 in
theorem suX2_nextt_58 {d : Nat} [zGh] (P : zP d) (r0 : zK d) (hr0 : zSimJ 1 X_X2_next 1 P 0 r0) : zSim X_X2_next 1 P 58 (uX2_nextt_58 P r0) := by
  unfold uX2_nextt_58
  refine sm_goto (pc := 58) (tgt := 0) dX2_next_58 (by decide) ?_
  exact hr0.use
noncomputable def bX2_nextt_48 {d : Nat} (P : zP d) (r0 : zK d) : zK d := (xaiT 18 14 (uX2_nextt_58 P r0))
set_option maxRecDepth 100000 in
set_option maxHeartbeats 4000000 in
theorem sbX2_nextt_48 {d : Nat} [zGh] (P : zP d) (r0 : zK d) (hr0 : zSimU 1 X_X2_next 1 P 0 r0) : zSim X_X2_next 1 P 48 (bX2_nextt_48 P r0) := by
  unfold bX2_nextt_48
  exact sm_aiT (pc := 48) (ci := 2) (n := 14) (C := RX2) (T := TX2) (N := 15) rfl rfl rfl zc_i_1 inz2 rfl (by decide) wd_586 rfl dX2_next_48 rfl dX2_next_49 dX2_next_50 dX2_next_53 dX2_next_54 (zput (C := RX2) (T := TX2) (N := 15) (ty0 := tyX2) (ty := .int) inz2 tyX2_ok nmX2 rfl (by decide) wd_586 rfl rfl dX2_next_55) (fun G2 hg0 hgm => @suX2_nextt_58 d G2 P r0 (hr0.up hg0 hgm))
noncomputable def cX2_nextt_87 {d : Nat} (P : zP d) : zK d := (xiret P)
set_option maxRecDepth 100000 in
set_option maxHeartbeats 4000000 in
theorem scX2_nextt_87 {d : Nat} [zGh] (P : zP d) : zSim X_X2_next 1 P 87 (cX2_nextt_87 P) := by
  unfold cX2_nextt_87
  refine sm_goto (pc := 87) (tgt := 91) dX2_next_87 (by decide) ?_
  exact sm_ireturn (pc := 91) dX2_next_91 rfl
noncomputable def lX2_nextt_0 {d : Nat} (P : zP d) (r0 : zK d) : zK d := (xfcU 18 14 10 22 1 (xfcU 18 14 10 22 1 (xpI 4294967295 (xiret P)) (xaldV 0 (xgfR 18 10 (xgfR 22 0 (xaldV 0 (xgfT 18 14 (xalQ 0 (xiret P)))))))) (xaldV 0 (xgfR 18 10 (xgfR 22 0 (xaldV 0 (xgfT 18 14 (xalQ 0 (xpI 32 (xjoin (bX2_nextt_48 P r0) (fun j48 => (xcmpS teqR rlEq rhEq rlNe rhNe j48 (xaldV 0 (xgfR 18 10 (xgfR 22 0 (xaldV 0 (xgfT 18 14 (xalQ 0 (xpI 10 (xcmpS teqR rlEq rhEq rlNe rhNe j48 (xfcU 18 14 10 22 1 (xpI 4294967295 (xiret P)) (xaldV 0 (xgfR 18 10 (xgfR 22 0 (xaldV 0 (xgfT 18 14 (xalQ 0 (cX2_nextt_87 P)))))))))))))))))))))))))))
set_option maxRecDepth 100000 in
set_option maxHeartbeats 4000000 in
theorem slX2_nextt_0 {d : Nat} [zGh] (P : zP d) (r0 : zK d) (hr0 : zSimU 1 X_X2_next 1 P 0 r0) : zSim X_X2_next 1 P 0 (lX2_nextt_0 P r0) := by
  unfold lX2_nextt_0
  refine sm_fcU (pc := 0) (tgt := 61) (ci := 2) (ci2 := 6) (n1 := 14) (n2 := 10) (n3 := 1) (C := RX2) (T := TX2) (N := 15) (C2 := RX6) (T2 := TX6) (N2 := 2) rfl rfl rfl rfl rfl inz2 rfl (by decide) (by decide) rfl inz6 rfl (by decide) rfl wd_586 rfl wd_582 rfl wd_39 rfl dX2_next_0 rfl dX2_next_1 dX2_next_4 rfl dX2_next_5 dX2_next_8 dX2_next_11 (by decide) ?_ ?_
  · skip
    refine sm_fcU (pc := 61) (tgt := 90) (ci := 2) (ci2 := 6) (n1 := 14) (n2 := 10) (n3 := 1) (C := RX2) (T := TX2) (N := 15) (C2 := RX6) (T2 := TX6) (N2 := 2) rfl rfl rfl rfl rfl inz2 rfl (by decide) (by decide) rfl inz6 rfl (by decide) rfl wd_586 rfl wd_582 rfl wd_39 rfl dX2_next_61 rfl dX2_next_62 dX2_next_65 rfl dX2_next_66 dX2_next_69 dX2_next_72 (by decide) ?_ ?_
    · skip
      refine sm_iconst (pc := 90) dX2_next_90 zc_i_m1 ?_
      exact sm_ireturn (pc := 91) dX2_next_91 rfl
    · skip
      refine sm_aloadV_n (pc := 75) (n := 0) dX2_next_75 rfl ?_
      refine gf_X2_42 (pc := 76) rfl dX2_next_76 ?_
      refine gf_X2_86 (pc := 79) rfl dX2_next_79 ?_
      refine sm_aloadV_n (pc := 82) (n := 0) dX2_next_82 rfl ?_
      refine gfT_X2_60 (pc := 83) rfl dX2_next_83 ?_
      refine sm_ialoadQ (pc := 86) dX2_next_86 ?_
      refine sm_goto (pc := 87) (tgt := 91) dX2_next_87 (by decide) ?_
      exact sm_ireturn (pc := 91) dX2_next_91 rfl
  · skip
    refine sm_aloadV_n (pc := 14) (n := 0) dX2_next_14 rfl ?_
    refine gf_X2_42 (pc := 15) rfl dX2_next_15 ?_
    refine gf_X2_86 (pc := 18) rfl dX2_next_18 ?_
    refine sm_aloadV_n (pc := 21) (n := 0) dX2_next_21 rfl ?_
    refine gfT_X2_60 (pc := 22) rfl dX2_next_22 ?_
    refine sm_ialoadQ (pc := 25) dX2_next_25 ?_
    refine sm_bipush (pc := 26) dX2_next_26 zc_b_32 ?_
    refine sm_joinJ (pc := 28) (pc' := 48) (j := 1) (fun G0 hG0 => @sbX2_nextt_48 d G0 P r0 (hr0.mv hG0 (by decide))) (fun j48 hj48 => ?_)
    refine sm_icmpS_eq (pc := 28) (tgt := 48) dX2_next_28 (by decide) ?_ ?_
    · skip
      exact hj48.use
    · skip
      refine sm_aloadV_n (pc := 31) (n := 0) dX2_next_31 rfl ?_
      refine gf_X2_42 (pc := 32) rfl dX2_next_32 ?_
      refine gf_X2_86 (pc := 35) rfl dX2_next_35 ?_
      refine sm_aloadV_n (pc := 38) (n := 0) dX2_next_38 rfl ?_
      refine gfT_X2_60 (pc := 39) rfl dX2_next_39 ?_
      refine sm_ialoadQ (pc := 42) dX2_next_42 ?_
      refine sm_bipush (pc := 43) dX2_next_43 zc_b_10 ?_
      refine sm_icmpS_ne (pc := 45) (tgt := 61) dX2_next_45 (by decide) ?_ ?_
      · skip
        refine sm_fcU (pc := 61) (tgt := 90) (ci := 2) (ci2 := 6) (n1 := 14) (n2 := 10) (n3 := 1) (C := RX2) (T := TX2) (N := 15) (C2 := RX6) (T2 := TX6) (N2 := 2) rfl rfl rfl rfl rfl inz2 rfl (by decide) (by decide) rfl inz6 rfl (by decide) rfl wd_586 rfl wd_582 rfl wd_39 rfl dX2_next_61 rfl dX2_next_62 dX2_next_65 rfl dX2_next_66 dX2_next_69 dX2_next_72 (by decide) ?_ ?_
        · skip
          refine sm_iconst (pc := 90) dX2_next_90 zc_i_m1 ?_
          exact sm_ireturn (pc := 91) dX2_next_91 rfl
        · skip
          refine sm_aloadV_n (pc := 75) (n := 0) dX2_next_75 rfl ?_
          refine gf_X2_42 (pc := 76) rfl dX2_next_76 ?_
          refine gf_X2_86 (pc := 79) rfl dX2_next_79 ?_
          refine sm_aloadV_n (pc := 82) (n := 0) dX2_next_82 rfl ?_
          refine gfT_X2_60 (pc := 83) rfl dX2_next_83 ?_
          refine sm_ialoadQ (pc := 86) dX2_next_86 ?_
          exact scX2_nextt_87 P
      · skip
        exact hj48.use
noncomputable def b_X2_nextt {d : Nat} (P : zP d) : zK d := (xlpA 18 14 (wkF 0 [] 14 274877906944 wkE) (fun r0 => (lX2_nextt_0 P r0)))
set_option maxRecDepth 100000 in
set_option maxHeartbeats 4000000 in
theorem s_X2_nextt {d : Nat} [zGh] (P : zP d) : zSim X_X2_next 1 P 0 (b_X2_nextt P) := by
  unfold b_X2_nextt
  exact sm_lpA (ci := 2) rfl rfl (by decide) (wkF_ok wkE_ok) (fun G1 r0 hr0 => @slX2_nextt_0 d G1 P r0 hr0)
noncomputable def f_X2_nextt {d : Nat} : List zV → zH d → zP d → Bool := zfn 1 (b_X2_nextt )
theorem m_X2_nextt {d : Nat} : zMet (d := d) X_X2_next yX2_next 1 (f_X2_nextt ) := zmet_mk (X := X_X2_next) (by decide) rfl rfl (fun P => s_X2_nextt P)

def hs_X2_next : zH 2 := (show zT 2 from (((18, 15, 0x4000000000800000000e800000000d800000000c0000000002800000000a800000000980000000088000000007800000000680000000058000000004800000000380000000028000000001), (22, 2, 0x1000000c90000000003)), ((0, 200, zun 40 200 4294967296), (0, 0, 0))), (3, (0, 0)))
def hs_X2_next_o0 : zH 2 := (show zT 2 from (((18, 15, 0x4000000000800000000e800000000d800000000c0000000002800000000a800000000980000000088000000007800000000680000000058000000004800000000380000000028000000001), (22, 2, 0x1000000c90000000003)), ((0, 200, zun 40 200 4294967296), (0, 0, 0))), (3, (0, 0)))
def hs_X2_next_o1 : zH 2 := (show zT 2 from (((18, 15, 0x4000000001800000000e800000000d800000000c0000000002800000000a800000000980000000088000000007800000000680000000058000000004800000000380000000028000000001), (22, 2, 0x1000000c90000000003)), ((0, 200, zun 40 200 4294967296), (0, 0, 0))), (3, (0, 0)))
set_option maxRecDepth 100000 in
theorem ev_X2_next : f_X2_nextt [zR 1] hs_X2_next (zrkL [(zI 4294967295, hs_X2_next_o0), (zI 4294967296, hs_X2_next_o1)]) = true := by decide +kernel
noncomputable def g_X2_next {d : Nat} : List zV → zH d → zP d → Bool := zsmyL [(0, 0), (1, 10), (2, 0)] [zR 1] hs_X2_next [(zI 4294967295, hs_X2_next_o0), (zI 4294967296, hs_X2_next_o1)]
theorem mg_X2_next {d : Nat} : zMet (d := d) X_X2_next yX2_next 1 g_X2_next := zMet_smL m_X2_nextt ev_X2_next

noncomputable def bX2_readNumbert_105 {d : Nat} (P : zP d) : zK d := (xaldV 0 (xgfR 18 0 (xpI 1 (xild 2 (xcV 17 3 0 0 (zstr f_X1_tellt) (xpI 4294967295 (xiret P)))))))
set_option maxRecDepth 100000 in
set_option maxHeartbeats 4000000 in
theorem sbX2_readNumbert_105 {d : Nat} [zGh] (P : zP d) : zSim X_X2_readNumber 2 P 105 (bX2_readNumbert_105 P) := by
  unfold bX2_readNumbert_105
  refine sm_aloadV_n (pc := 105) (n := 0) dX2_readNumber_105 rfl ?_
  refine gf_X2_12 (pc := 106) rfl dX2_readNumber_106 ?_
  refine sm_iconst (pc := 109) dX2_readNumber_109 zc_i_1 ?_
  refine sm_iload_n (pc := 110) (n := 2) dX2_readNumber_110 rfl ?_
  refine sm_cV (pc := 111) (ci := 1) (n := 3) (mc := 0) (ms := 0) rfl (zMet_str m_X1_tellt) (cr_X2_89 (X := X_X2_readNumber) (fr := 2) (frc := 1) (pc := 111) (mc := 0) (ms := 0) rfl (by decide) dX2_readNumber_111) ?_
  refine sm_iconst (pc := 114) dX2_readNumber_114 zc_i_m1 ?_
  exact sm_ireturn (pc := 115) dX2_readNumber_115 rfl
noncomputable def bX2_readNumbert_105_2 {d : Nat} (P : zP d) : zK d := (xaldV 0 (xgfR 18 0 (xpI 1 (xild 2 (xcV 17 3 0 0 (zstr f_X1_tellt) (xpI 4294967295 (xiret P)))))))
set_option maxRecDepth 100000 in
set_option maxHeartbeats 4000000 in
theorem sbX2_readNumbert_105_2 {d : Nat} [zGh] (P : zP d) : zSim X_X2_readNumber 2 P 105 (bX2_readNumbert_105_2 P) := by
  unfold bX2_readNumbert_105_2
  refine sm_aloadV_n (pc := 105) (n := 0) dX2_readNumber_105 rfl ?_
  refine gf_X2_12 (pc := 106) rfl dX2_readNumber_106 ?_
  refine sm_iconst (pc := 109) dX2_readNumber_109 zc_i_1 ?_
  refine sm_iload_n (pc := 110) (n := 2) dX2_readNumber_110 rfl ?_
  refine sm_cV (pc := 111) (ci := 1) (n := 3) (mc := 0) (ms := 0) rfl (zMet_str m_X1_tellt) (cr_X2_89 (X := X_X2_readNumber) (fr := 2) (frc := 1) (pc := 111) (mc := 0) (ms := 0) rfl (by decide) dX2_readNumber_111) ?_
  refine sm_iconst (pc := 114) dX2_readNumber_114 zc_i_m1 ?_
  exact sm_ireturn (pc := 115) dX2_readNumber_115 rfl
noncomputable def uX2_readNumbert_53 {d : Nat} (P : zP d) (r12 : zK d) : zK d := (xfcU 18 14 10 22 1 (xpI 4294967295 (xist 1 r12)) (xaldV 0 (xgfR 18 10 (xgfR 22 0 (xaldV 0 (xgfT 18 14 (xalQ 0 (xist 1 r12))))))))
set_option maxRecDepth 100000 in
set_option maxHeartbeats 4000000 in
theorem suX2_readNumbert_53 {d : Nat} [zGh] (P : zP d) (r12 : zK d) (hr12 : zSimJ 1 X_X2_readNumber 2 P 12 r12) : zSim X_X2_readNumber 2 P 53 (uX2_readNumbert_53 P r12) := by
  unfold uX2_readNumbert_53
  refine sm_fcU (pc := 53) (tgt := 82) (ci := 2) (ci2 := 6) (n1 := 14) (n2 := 10) (n3 := 1) (C := RX2) (T := TX2) (N := 15) (C2 := RX6) (T2 := TX6) (N2 := 2) rfl rfl rfl rfl rfl inz2 rfl (by decide) (by decide) rfl inz6 rfl (by decide) rfl wd_586 rfl wd_582 rfl wd_39 rfl dX2_readNumber_53 rfl dX2_readNumber_54 dX2_readNumber_57 rfl dX2_readNumber_58 dX2_readNumber_61 dX2_readNumber_64 (by decide) ?_ ?_
  · skip
    refine sm_iconst (pc := 82) dX2_readNumber_82 zc_i_m1 ?_
    refine sm_istore_n (pc := 83) (n := 1) dX2_readNumber_83 rfl ?_
    refine sm_goto (pc := 84) (tgt := 12) dX2_readNumber_84 (by decide) ?_
    exact hr12.use
  · skip
    refine sm_aloadV_n (pc := 67) (n := 0) dX2_readNumber_67 rfl ?_
    refine gf_X2_42 (pc := 68) rfl dX2_readNumber_68 ?_
    refine gf_X2_86 (pc := 71) rfl dX2_readNumber_71 ?_
    refine sm_aloadV_n (pc := 74) (n := 0) dX2_readNumber_74 rfl ?_
    refine gfT_X2_60 (pc := 75) rfl dX2_readNumber_75 ?_
    refine sm_ialoadQ (pc := 78) dX2_readNumber_78 ?_
    refine sm_goto (pc := 79) (tgt := 83) dX2_readNumber_79 (by decide) ?_
    refine sm_istore_n (pc := 83) (n := 1) dX2_readNumber_83 rfl ?_
    refine sm_goto (pc := 84) (tgt := 12) dX2_readNumber_84 (by decide) ?_
    exact hr12.use
noncomputable def lX2_readNumbert_12 {d : Nat} (P : zP d) (r12 : zK d) : zK d := (xfcU 18 14 10 22 1 (xaldV 0 (xgfT 18 14 (xild 2 (xjoin (bX2_readNumbert_105 P) (fun j105 => (xcmpS teqR rlEq rhEq rlNe rhNe j105 (xaldV 0 (xgfT 18 14 (xild 2 (xbin zsubR (xpI 4 (xcmpS tleR rlS rhLe rlGt rhS (xild 3 (xiret P)) j105)))))))))))) (xild 1 (xcS 1 0 0 (zstr f_X2_isDigitt) (xif0S teqR rlEq rhEq rlNe rhNe (xaldV 0 (xgfT 18 14 (xild 2 (xjoin (bX2_readNumbert_105_2 P) (fun j105 => (xcmpS teqR rlEq rhEq rlNe rhNe j105 (xaldV 0 (xgfT 18 14 (xild 2 (xbin zsubR (xpI 4 (xcmpS tleR rlS rhLe rlGt rhS (xild 3 (xiret P)) j105)))))))))))) (xild 3 (xpI 10 (xbin zmulR (xild 1 (xbin zaddR (xpI 48 (xbin zsubR (xist 3 (xaiT 18 14 (uX2_readNumbert_53 P r12))))))))))))))
set_option maxRecDepth 100000 in
set_option maxHeartbeats 4000000 in
theorem slX2_readNumbert_12 {d : Nat} [zGh] (P : zP d) (r12 : zK d) (hr12 : zSimU 1 X_X2_readNumber 2 P 12 r12) : zSim X_X2_readNumber 2 P 12 (lX2_readNumbert_12 P r12) := by
  unfold lX2_readNumbert_12
  refine sm_fcU (pc := 12) (tgt := 87) (ci := 2) (ci2 := 6) (n1 := 14) (n2 := 10) (n3 := 1) (C := RX2) (T := TX2) (N := 15) (C2 := RX6) (T2 := TX6) (N2 := 2) rfl rfl rfl rfl rfl inz2 rfl (by decide) (by decide) rfl inz6 rfl (by decide) rfl wd_586 rfl wd_582 rfl wd_39 rfl dX2_readNumber_12 rfl dX2_readNumber_13 dX2_readNumber_16 rfl dX2_readNumber_17 dX2_readNumber_20 dX2_readNumber_23 (by decide) ?_ ?_
  · skip
    refine sm_aloadV_n (pc := 87) (n := 0) dX2_readNumber_87 rfl ?_
    refine gfT_X2_60 (pc := 88) rfl dX2_readNumber_88 ?_
    refine sm_iload_n (pc := 91) (n := 2) dX2_readNumber_91 rfl ?_
    refine sm_joinJ (pc := 92) (pc' := 105) (j := 1) (fun G0 hG0 => @sbX2_readNumbert_105 d G0 P) (fun j105 hj105 => ?_)
    refine sm_icmpS_eq (pc := 92) (tgt := 105) dX2_readNumber_92 (by decide) ?_ ?_
    · skip
      exact hj105.use
    · skip
      refine sm_aloadV_n (pc := 95) (n := 0) dX2_readNumber_95 rfl ?_
      refine gfT_X2_60 (pc := 96) rfl dX2_readNumber_96 ?_
      refine sm_iload_n (pc := 99) (n := 2) dX2_readNumber_99 rfl ?_
      refine sm_isubR (pc := 100) dX2_readNumber_100 ?_
      refine sm_iconst (pc := 101) dX2_readNumber_101 zc_i_4 ?_
      refine sm_icmpS_le (pc := 102) (tgt := 116) dX2_readNumber_102 (by decide) ?_ ?_
      · skip
        refine sm_iload_n (pc := 116) (n := 3) dX2_readNumber_116 rfl ?_
        exact sm_ireturn (pc := 117) dX2_readNumber_117 rfl
      · skip
        exact hj105.use
  · skip
    refine sm_iload_n (pc := 26) (n := 1) dX2_readNumber_26 rfl ?_
    refine sm_cS (pc := 27) (n := 1) (mc := 0) (ms := 0) (zMet_str m_X2_isDigitt) (cr_X2_126 (X := X_X2_readNumber) (fr := 2) (frc := 1) (pc := 27) (mc := 0) (ms := 0) rfl (by decide) dX2_readNumber_27) ?_
    refine sm_ifS_eq (pc := 30) (tgt := 87) dX2_readNumber_30 (by decide) ?_ ?_
    · skip
      refine sm_aloadV_n (pc := 87) (n := 0) dX2_readNumber_87 rfl ?_
      refine gfT_X2_60 (pc := 88) rfl dX2_readNumber_88 ?_
      refine sm_iload_n (pc := 91) (n := 2) dX2_readNumber_91 rfl ?_
      refine sm_joinJ (pc := 92) (pc' := 105) (j := 1) (fun G0 hG0 => @sbX2_readNumbert_105_2 d G0 P) (fun j105 hj105 => ?_)
      refine sm_icmpS_eq (pc := 92) (tgt := 105) dX2_readNumber_92 (by decide) ?_ ?_
      · skip
        exact hj105.use
      · skip
        refine sm_aloadV_n (pc := 95) (n := 0) dX2_readNumber_95 rfl ?_
        refine gfT_X2_60 (pc := 96) rfl dX2_readNumber_96 ?_
        refine sm_iload_n (pc := 99) (n := 2) dX2_readNumber_99 rfl ?_
        refine sm_isubR (pc := 100) dX2_readNumber_100 ?_
        refine sm_iconst (pc := 101) dX2_readNumber_101 zc_i_4 ?_
        refine sm_icmpS_le (pc := 102) (tgt := 116) dX2_readNumber_102 (by decide) ?_ ?_
        · skip
          refine sm_iload_n (pc := 116) (n := 3) dX2_readNumber_116 rfl ?_
          exact sm_ireturn (pc := 117) dX2_readNumber_117 rfl
        · skip
          exact hj105.use
    · skip
      refine sm_iload_n (pc := 33) (n := 3) dX2_readNumber_33 rfl ?_
      refine sm_bipush (pc := 34) dX2_readNumber_34 zc_b_10 ?_
      refine sm_imulR (pc := 36) dX2_readNumber_36 ?_
      refine sm_iload_n (pc := 37) (n := 1) dX2_readNumber_37 rfl ?_
      refine sm_iaddR (pc := 38) dX2_readNumber_38 ?_
      refine sm_bipush (pc := 39) dX2_readNumber_39 zc_b_48 ?_
      refine sm_isubR (pc := 41) dX2_readNumber_41 ?_
      refine sm_istore_n (pc := 42) (n := 3) dX2_readNumber_42 rfl ?_
      exact sm_aiT (pc := 43) (ci := 2) (n := 14) (C := RX2) (T := TX2) (N := 15) rfl rfl rfl zc_i_1 inz2 rfl (by decide) wd_586 rfl dX2_readNumber_43 rfl dX2_readNumber_44 dX2_readNumber_45 dX2_readNumber_48 dX2_readNumber_49 (zput (C := RX2) (T := TX2) (N := 15) (ty0 := tyX2) (ty := .int) inz2 tyX2_ok nmX2 rfl (by decide) wd_586 rfl rfl dX2_readNumber_50) (fun G2 hg0 hgm => @suX2_readNumbert_53 d G2 P r12 (hr12.up hg0 hgm))
noncomputable def b_X2_readNumbert {d : Nat} (P : zP d) : zK d := (xaldV 0 (xcV 18 1 0 0 (zstr g_X2_next) (xist 1 (xaldV 0 (xgfT 18 14 (xist 2 (xpI 0 (xist 3 (xlpA 18 14 (wkF 0 [] 14 274877906944 (wkL 1 4294967296 (wkL 3 4294967296 wkE))) (fun r12 => (lX2_readNumbert_12 P r12)))))))))))
set_option maxRecDepth 100000 in
set_option maxHeartbeats 4000000 in
theorem s_X2_readNumbert {d : Nat} [zGh] (P : zP d) : zSim X_X2_readNumber 2 P 0 (b_X2_readNumbert P) := by
  unfold b_X2_readNumbert
  refine sm_aloadV_n (pc := 0) (n := 0) dX2_readNumber_0 rfl ?_
  refine sm_cV (pc := 1) (ci := 2) (n := 1) (mc := 0) (ms := 0) rfl (zMet_str mg_X2_next) (cr_X2_74 (X := X_X2_readNumber) (fr := 2) (frc := 1) (pc := 1) (mc := 0) (ms := 0) rfl (by decide) dX2_readNumber_1) ?_
  refine sm_istore_n (pc := 4) (n := 1) dX2_readNumber_4 rfl ?_
  refine sm_aloadV_n (pc := 5) (n := 0) dX2_readNumber_5 rfl ?_
  refine gfT_X2_60 (pc := 6) rfl dX2_readNumber_6 ?_
  refine sm_istore_n (pc := 9) (n := 2) dX2_readNumber_9 rfl ?_
  refine sm_iconst (pc := 10) dX2_readNumber_10 zc_i_0 ?_
  refine sm_istore_n (pc := 11) (n := 3) dX2_readNumber_11 rfl ?_
  exact sm_lpA (ci := 2) rfl rfl (by decide) (wkF_ok (wkL_ok (wkL_ok wkE_ok))) (fun G1 r12 hr12 => @slX2_readNumbert_12 d G1 P r12 hr12)
noncomputable def f_X2_readNumbert {d : Nat} : List zV → zH d → zP d → Bool := zfn 4 (b_X2_readNumbert )
theorem m_X2_readNumbert {d : Nat} : zMet (d := d) X_X2_readNumber yX2_readNumber 2 (f_X2_readNumbert ) := zmet_mk (X := X_X2_readNumber) (by decide) rfl rfl (fun P => s_X2_readNumbert P)

def hs_X2_readNumber : zH 2 := (show zT 2 from (((18, 15, 0x4000000000800000000e800000000d800000000c0000000002800000000a800000000980000000088000000007800000000680000000058000000004800000000380000000020000000004), (22, 2, 0x1000000c90000000003)), ((0, 200, zun 40 200 4294967296), (17, 4, 0x10000001080000000c301000000000100000000))), (4, (0, 0)))
def hs_X2_readNumber_o0 : zH 2 := (show zT 2 from (((18, 15, 0x4000000000800000000e800000000d800000000c0000000002800000000a800000000980000000088000000007800000000680000000058000000004800000000380000000020000000004), (22, 2, 0x1000000c90000000003)), ((0, 200, zun 40 200 4294967296), (17, 4, 0x80000000c301000000c90000000001))), (4, (0, 0)))
def hs_X2_readNumber_o1 : zH 2 := (show zT 2 from (((18, 15, 0x4000000000800000000e800000000d800000000c0000000002800000000a800000000980000000088000000007800000000680000000058000000004800000000380000000020000000004), (22, 2, 0x1000000c90000000003)), ((0, 200, zun 40 200 4294967296), (17, 4, 0x10000001080000000c301000000000100000000))), (4, (0, 0)))
set_option maxRecDepth 100000 in
theorem ev_X2_readNumber : f_X2_readNumbert [zR 1] hs_X2_readNumber (zrkL [(zI 4294967295, hs_X2_readNumber_o0), (zI 4294967296, hs_X2_readNumber_o1)]) = true := by decide +kernel
noncomputable def g_X2_readNumber {d : Nat} : List zV → zH d → zP d → Bool := zsmyL [(0, 0), (1, 10), (2, 0), (1, 0)] [zR 1] hs_X2_readNumber [(zI 4294967295, hs_X2_readNumber_o0), (zI 4294967296, hs_X2_readNumber_o1)]
theorem mg_X2_readNumber {d : Nat} : zMet (d := d) X_X2_readNumber yX2_readNumber 2 g_X2_readNumber := zMet_smL m_X2_readNumbert ev_X2_readNumber

noncomputable def b_X2_refuset {d : Nat} (P : zP d) : zK d := (xaldV 0 (xgfR 18 0 (xpI 1 (xild 1 (xcV 17 3 0 0 (zstr f_X1_tellt) (xpI 0 (xzret P)))))))
set_option maxRecDepth 100000 in
set_option maxHeartbeats 4000000 in
theorem s_X2_refuset {d : Nat} [zGh] (P : zP d) : zSim X_X2_refuse 2 P 0 (b_X2_refuset P) := by
  unfold b_X2_refuset
  refine sm_aloadV_n (pc := 0) (n := 0) dX2_refuse_0 rfl ?_
  refine gf_X2_12 (pc := 1) rfl dX2_refuse_1 ?_
  refine sm_iconst (pc := 4) dX2_refuse_4 zc_i_1 ?_
  refine sm_iload_n (pc := 5) (n := 1) dX2_refuse_5 rfl ?_
  refine sm_cV (pc := 6) (ci := 1) (n := 3) (mc := 0) (ms := 0) rfl (zMet_str m_X1_tellt) (cr_X2_89 (X := X_X2_refuse) (fr := 2) (frc := 1) (pc := 6) (mc := 0) (ms := 0) rfl (by decide) dX2_refuse_6) ?_
  refine sm_iconst (pc := 9) dX2_refuse_9 zc_i_0 ?_
  exact sm_zreturn (pc := 10) dX2_refuse_10 rfl
noncomputable def f_X2_refuset {d : Nat} : List zV → zH d → zP d → Bool := zfn 2 (b_X2_refuset )
theorem m_X2_refuset {d : Nat} : zMet (d := d) X_X2_refuse yX2_refuse 2 (f_X2_refuset ) := zmet_mk (X := X_X2_refuse) (by decide) rfl rfl (fun P => s_X2_refuset P)

noncomputable def bX2_failt_68 {d : Nat} (P : zP d) (r12 : zK d) : zK d := (xaldV 0 (xgfR 18 0 (xaldV 0 (xgfR 18 4 (xild 5 (xalQ 0 (xcV 17 2 0 0 (zstr f_X1_addWithint) (xincR 5 4294967295 r12))))))))
set_option maxRecDepth 100000 in
set_option maxHeartbeats 4000000 in
theorem sbX2_failt_68 {d : Nat} [zGh] (P : zP d) (r12 : zK d) (hr12 : zSimJ 1 X_X2_fail 2 P 12 r12) : zSim X_X2_fail 2 P 68 (bX2_failt_68 P r12) := by
  unfold bX2_failt_68
  refine sm_aloadV_n (pc := 68) (n := 0) dX2_fail_68 rfl ?_
  refine gf_X2_12 (pc := 69) rfl dX2_fail_69 ?_
  refine sm_aloadV_n (pc := 72) (n := 0) dX2_fail_72 rfl ?_
  refine gf_X2_29 (pc := 73) rfl dX2_fail_73 ?_
  refine sm_iload (pc := 76) (n := 5) dX2_fail_76 ?_
  refine sm_ialoadQ (pc := 78) dX2_fail_78 ?_
  refine sm_cV (pc := 79) (ci := 1) (n := 2) (mc := 0) (ms := 0) rfl (zMet_str m_X1_addWithint) (cr_X2_93 (X := X_X2_fail) (fr := 2) (frc := 1) (pc := 79) (mc := 0) (ms := 0) rfl (by decide) dX2_fail_79) ?_
  refine sm_iincR (pc := 82) (n := 5) dX2_fail_82 zc_i_m1 ?_
  refine sm_goto (pc := 85) (tgt := 12) dX2_fail_85 (by decide) ?_
  exact hr12.use
noncomputable def bX2_failt_54 {d : Nat} (P : zP d) (j68 : zK d) : zK d := (xaldV 0 (xgfR 18 0 (xaldV 0 (xgfR 18 5 (xild 5 (xalQ 0 (xcV 17 2 0 0 (zstr f_X1_addWithint) j68)))))))
set_option maxRecDepth 100000 in
set_option maxHeartbeats 4000000 in
theorem sbX2_failt_54 {d : Nat} [zGh] (P : zP d) (j68 : zK d) (hj68 : zSimJ 1 X_X2_fail 2 P 68 j68) : zSim X_X2_fail 2 P 54 (bX2_failt_54 P j68) := by
  unfold bX2_failt_54
  refine sm_aloadV_n (pc := 54) (n := 0) dX2_fail_54 rfl ?_
  refine gf_X2_12 (pc := 55) rfl dX2_fail_55 ?_
  refine sm_aloadV_n (pc := 58) (n := 0) dX2_fail_58 rfl ?_
  refine gf_X2_33 (pc := 59) rfl dX2_fail_59 ?_
  refine sm_iload (pc := 62) (n := 5) dX2_fail_62 ?_
  refine sm_ialoadQ (pc := 64) dX2_fail_64 ?_
  refine sm_cV (pc := 65) (ci := 1) (n := 2) (mc := 0) (ms := 0) rfl (zMet_str m_X1_addWithint) (cr_X2_93 (X := X_X2_fail) (fr := 2) (frc := 1) (pc := 65) (mc := 0) (ms := 0) rfl (by decide) dX2_fail_65) ?_
  exact hj68.use
noncomputable def bX2_failt_42 {d : Nat} (P : zP d) (r12 : zK d) : zK d := (xild 5 (xild 3 (xjoin (bX2_failt_68 P r12) (fun j68 => (xjoin (bX2_failt_54 P j68) (fun j54 => (xcmpS tgeR rlGe rhS rlS rhLt (xild 4 (xpI 2 (xcmpS teqR rlEq rhEq rlNe rhNe j68 j54))) j54)))))))
set_option maxRecDepth 100000 in
set_option maxHeartbeats 4000000 in
theorem sbX2_failt_42 {d : Nat} [zGh] (P : zP d) (r12 : zK d) (hr12 : zSimJ 1 X_X2_fail 2 P 12 r12) : zSim X_X2_fail 2 P 42 (bX2_failt_42 P r12) := by
  unfold bX2_failt_42
  refine sm_iload (pc := 42) (n := 5) dX2_fail_42 ?_
  refine sm_iload_n (pc := 44) (n := 3) dX2_fail_44 rfl ?_
  refine sm_joinJ (pc := 45) (pc' := 68) (j := 1) (fun G0 hG0 => @sbX2_failt_68 d G0 P r12 (hr12.mv hG0 (by decide))) (fun j68 hj68 => ?_)
  refine sm_joinJ (pc := 45) (pc' := 54) (j := 1) (fun G0 hG0 => @sbX2_failt_54 d G0 P j68 (hj68.mv hG0 (by decide))) (fun j54 hj54 => ?_)
  refine sm_icmpS_lt (pc := 45) (tgt := 54) dX2_fail_45 (by decide) ?_ ?_
  · skip
    exact hj54.use
  · skip
    refine sm_iload (pc := 48) (n := 4) dX2_fail_48 ?_
    refine sm_iconst (pc := 50) dX2_fail_50 zc_i_2 ?_
    refine sm_icmpS_eq (pc := 51) (tgt := 68) dX2_fail_51 (by decide) ?_ ?_
    · skip
      exact hj68.use
    · skip
      exact hj54.use
noncomputable def bX2_failt_28 {d : Nat} (P : zP d) (j42 : zK d) : zK d := (xaldV 0 (xgfR 18 0 (xaldV 0 (xgfR 18 6 (xild 5 (xalQ 0 (xcV 17 2 0 0 (zstr f_X1_addWithint) j42)))))))
set_option maxRecDepth 100000 in
set_option maxHeartbeats 4000000 in
theorem sbX2_failt_28 {d : Nat} [zGh] (P : zP d) (j42 : zK d) (hj42 : zSimJ 1 X_X2_fail 2 P 42 j42) : zSim X_X2_fail 2 P 28 (bX2_failt_28 P j42) := by
  unfold bX2_failt_28
  refine sm_aloadV_n (pc := 28) (n := 0) dX2_fail_28 rfl ?_
  refine gf_X2_12 (pc := 29) rfl dX2_fail_29 ?_
  refine sm_aloadV_n (pc := 32) (n := 0) dX2_fail_32 rfl ?_
  refine gf_X2_36 (pc := 33) rfl dX2_fail_33 ?_
  refine sm_iload (pc := 36) (n := 5) dX2_fail_36 ?_
  refine sm_ialoadQ (pc := 38) dX2_fail_38 ?_
  refine sm_cV (pc := 39) (ci := 1) (n := 2) (mc := 0) (ms := 0) rfl (zMet_str m_X1_addWithint) (cr_X2_93 (X := X_X2_fail) (fr := 2) (frc := 1) (pc := 39) (mc := 0) (ms := 0) rfl (by decide) dX2_fail_39) ?_
  exact hj42.use
noncomputable def lX2_failt_12 {d : Nat} (P : zP d) (r12 : zK d) : zK d := (xild 5 (xif0S tgeR rlGe rhS rlS rhLt (xild 5 (xild 3 (xjoin (bX2_failt_42 P r12) (fun j42 => (xjoin (bX2_failt_28 P j42) (fun j28 => (xcmpS tgeR rlGe rhS rlS rhLt (xild 4 (xif0S teqR rlEq rhEq rlNe rhNe j28 j42)) j28))))))) (xpI 0 (xzret P))))
set_option maxRecDepth 100000 in
set_option maxHeartbeats 4000000 in
theorem slX2_failt_12 {d : Nat} [zGh] (P : zP d) (r12 : zK d) (hr12 : zSimJ 1 X_X2_fail 2 P 12 r12) : zSim X_X2_fail 2 P 12 (lX2_failt_12 P r12) := by
  unfold lX2_failt_12
  refine sm_iload (pc := 12) (n := 5) dX2_fail_12 ?_
  refine sm_ifS_lt (pc := 14) (tgt := 88) dX2_fail_14 (by decide) ?_ ?_
  · skip
    refine sm_iconst (pc := 88) dX2_fail_88 zc_i_0 ?_
    exact sm_zreturn (pc := 89) dX2_fail_89 rfl
  · skip
    refine sm_iload (pc := 17) (n := 5) dX2_fail_17 ?_
    refine sm_iload_n (pc := 19) (n := 3) dX2_fail_19 rfl ?_
    refine sm_joinJ (pc := 20) (pc' := 42) (j := 1) (fun G0 hG0 => @sbX2_failt_42 d G0 P r12 (hr12.mv hG0 (by decide))) (fun j42 hj42 => ?_)
    refine sm_joinJ (pc := 20) (pc' := 28) (j := 1) (fun G0 hG0 => @sbX2_failt_28 d G0 P j42 (hj42.mv hG0 (by decide))) (fun j28 hj28 => ?_)
    refine sm_icmpS_lt (pc := 20) (tgt := 28) dX2_fail_20 (by decide) ?_ ?_
    · skip
      exact hj28.use
    · skip
      refine sm_iload (pc := 23) (n := 4) dX2_fail_23 ?_
      refine sm_ifS_ne (pc := 25) (tgt := 42) dX2_fail_25 (by decide) ?_ ?_
      · skip
        exact hj42.use
      · skip
        exact hj28.use
noncomputable def b_X2_failt {d : Nat} (P : zP d) : zK d := (xaldV 0 (xgfR 18 0 (xild 1 (xild 2 (xcV 17 3 0 0 (zstr f_X1_tellt) (xild 3 (xist 5 (xloop (fun r12 => (lX2_failt_12 P r12)) 100000))))))))
set_option maxRecDepth 100000 in
set_option maxHeartbeats 4000000 in
theorem s_X2_failt {d : Nat} [zGh] (P : zP d) : zSim X_X2_fail 2 P 0 (b_X2_failt P) := by
  unfold b_X2_failt
  refine sm_aloadV_n (pc := 0) (n := 0) dX2_fail_0 rfl ?_
  refine gf_X2_12 (pc := 1) rfl dX2_fail_1 ?_
  refine sm_iload_n (pc := 4) (n := 1) dX2_fail_4 rfl ?_
  refine sm_iload_n (pc := 5) (n := 2) dX2_fail_5 rfl ?_
  refine sm_cV (pc := 6) (ci := 1) (n := 3) (mc := 0) (ms := 0) rfl (zMet_str m_X1_tellt) (cr_X2_89 (X := X_X2_fail) (fr := 2) (frc := 1) (pc := 6) (mc := 0) (ms := 0) rfl (by decide) dX2_fail_6) ?_
  refine sm_iload_n (pc := 9) (n := 3) dX2_fail_9 rfl ?_
  refine sm_istore (pc := 10) (n := 5) dX2_fail_10 ?_
  exact (sm_loopJ (j := 1) (fun G1 hG1 r12 hr12 => @slX2_failt_12 d G1 P r12 hr12) _).use
noncomputable def f_X2_failt {d : Nat} : List zV → zH d → zP d → Bool := zfn 6 (b_X2_failt )
theorem m_X2_failt {d : Nat} : zMet (d := d) X_X2_fail yX2_fail 2 (f_X2_failt ) := zmet_mk (X := X_X2_fail) (by decide) rfl rfl (fun P => s_X2_failt P)

noncomputable def b_X2_readConstantt {d : Nat} (P : zP d) : zK d := (xaldV 0 (xcV 18 1 0 0 (zstr (zenT 18 14 g_X2_readNumber)) (xist 2 (xild 2 (xpI 4294967295 (xcmpS teqR rlEq rhEq rlNe rhNe (xpI 0 (xzret P)) (xaldV 0 (xgfR 18 3 (xild 1 (xaaT (xild 2 (xi2lR (xcS 2 0 0 (zstr f_J7_fill_d0a16) (xpI 1 (xzret P)))))))))))))))
set_option maxRecDepth 100000 in
set_option maxHeartbeats 4000000 in
theorem s_X2_readConstantt {d : Nat} [zGh] (P : zP d) : zSim X_X2_readConstant 3 P 0 (b_X2_readConstantt P) := by
  unfold b_X2_readConstantt
  refine sm_aloadV_n (pc := 0) (n := 0) dX2_readConstant_0 rfl ?_
  refine sm_cV (pc := 1) (ci := 2) (n := 1) (mc := 0) (ms := 0) rfl (zMet_str (zMet_en (ci := 2) rfl rfl (by decide) mg_X2_readNumber)) (cr_X2_153 (X := X_X2_readConstant) (fr := 3) (frc := 2) (pc := 1) (mc := 0) (ms := 0) rfl (by decide) dX2_readConstant_1) ?_
  refine sm_istore_n (pc := 4) (n := 2) dX2_readConstant_4 rfl ?_
  refine sm_iload_n (pc := 5) (n := 2) dX2_readConstant_5 rfl ?_
  refine sm_iconst (pc := 6) dX2_readConstant_6 zc_i_m1 ?_
  refine sm_icmpS_ne (pc := 7) (tgt := 12) dX2_readConstant_7 (by decide) ?_ ?_
  · skip
    refine sm_aloadV_n (pc := 12) (n := 0) dX2_readConstant_12 rfl ?_
    refine gf_X2_26 (pc := 13) rfl dX2_readConstant_13 ?_
    refine sm_iload_n (pc := 16) (n := 1) dX2_readConstant_16 rfl ?_
    refine sm_aaloadT (pc := 17) dX2_readConstant_17 ?_
    refine sm_iload_n (pc := 18) (n := 2) dX2_readConstant_18 rfl ?_
    refine sm_i2lR (pc := 19) dX2_readConstant_19 ?_
    refine sm_cS (pc := 20) (n := 2) (mc := 0) (ms := 0) (zMet_str m_J7_fill_d0a16) (cr_X2_64 (X := X_X2_readConstant) (fr := 3) (frc := 1) (pc := 20) (mc := 0) (ms := 0) rfl (by decide) dX2_readConstant_20) ?_
    refine sm_iconst (pc := 23) dX2_readConstant_23 zc_i_1 ?_
    exact sm_zreturn (pc := 24) dX2_readConstant_24 rfl
  · skip
    refine sm_iconst (pc := 10) dX2_readConstant_10 zc_i_0 ?_
    exact sm_zreturn (pc := 11) dX2_readConstant_11 rfl
noncomputable def f_X2_readConstantt {d : Nat} : List zV → zH d → zP d → Bool := zfn 3 (b_X2_readConstantt )
theorem m_X2_readConstantt {d : Nat} : zMet (d := d) X_X2_readConstant yX2_readConstant 3 (f_X2_readConstantt ) := zmet_mk (X := X_X2_readConstant) (by decide) rfl rfl (fun P => s_X2_readConstantt P)

noncomputable def cX2_readSlott_51 {d : Nat} (P : zP d) : zK d := (xpI 0 (xaldV 0 (xgfR 18 12 (xgfI 23 1 (xcpy 2 72 (xpI 1 (xzret P)))))))
set_option maxRecDepth 100000 in
set_option maxHeartbeats 4000000 in
theorem scX2_readSlott_51 {d : Nat} [zGh] (P : zP d) : zSim X_X2_readSlot 3 P 51 (cX2_readSlott_51 P) := by
  unfold cX2_readSlott_51
  refine sm_iconst (pc := 51) dX2_readSlot_51 zc_i_0 ?_
  refine sm_aloadV_n (pc := 52) (n := 0) dX2_readSlot_52 rfl ?_
  refine gf_X2_49 (pc := 53) rfl dX2_readSlot_53 ?_
  refine gf_X2_100 (pc := 56) rfl dX2_readSlot_56 ?_
  refine sm_copyJ (pc := 59) wd_753 wd_80 wd_79 wd_7 (by decide) dX2_readSlot_59 ?_
  refine sm_iconst (pc := 62) dX2_readSlot_62 zc_i_1 ?_
  exact sm_zreturn (pc := 63) dX2_readSlot_63 rfl
noncomputable def b_X2_readSlott {d : Nat} (P : zP d) : zK d := (xaldV 0 (xcV 18 1 0 0 (zstr (zenT 18 14 g_X2_next)) (xpop (xaldV 0 (xgfI 18 14 (xist 2 (xaldV 0 (xcV 18 1 0 0 (zstr (zenT 18 14 g_X2_readNumber)) (xist 3 (xild 3 (xpI 4294967295 (xcmpS teqR rlEq rhEq rlNe rhNe (xpI 0 (xzret P)) (xcutLR 3 6 (xild 3 (xcS 1 0 0 (zstr f_X8_isSlott) (xif0S teqR rlEq rhEq rlNe rhNe (xaldV 0 (xpI 4 (xild 2 (xild 1 (xpI 0 (xcV 18 5 0 0 (zstr f_X2_failt) (xzret P))))))) (xaldV 0 (xgfR 18 11 (xild 3 (xaaT (xpI 0 (xaldV 0 (xgfR 18 3 (xild 1 (xaaT (cX2_readSlott_51 P))))))))))))))))))))))))))
set_option maxRecDepth 100000 in
set_option maxHeartbeats 4000000 in
theorem s_X2_readSlott {d : Nat} [zGh] (P : zP d) : zSim X_X2_readSlot 3 P 0 (b_X2_readSlott P) := by
  unfold b_X2_readSlott
  refine sm_aloadV_n (pc := 0) (n := 0) dX2_readSlot_0 rfl ?_
  refine sm_cV (pc := 1) (ci := 2) (n := 1) (mc := 0) (ms := 0) rfl (zMet_str (zMet_en (ci := 2) rfl rfl (by decide) mg_X2_next)) (cr_X2_74 (X := X_X2_readSlot) (fr := 3) (frc := 1) (pc := 1) (mc := 0) (ms := 0) rfl (by decide) dX2_readSlot_1) ?_
  refine sm_pop (pc := 4) dX2_readSlot_4 ?_
  refine sm_aloadV_n (pc := 5) (n := 0) dX2_readSlot_5 rfl ?_
  refine gf_X2_60 (pc := 6) rfl dX2_readSlot_6 ?_
  refine sm_istore_n (pc := 9) (n := 2) dX2_readSlot_9 rfl ?_
  refine sm_aloadV_n (pc := 10) (n := 0) dX2_readSlot_10 rfl ?_
  refine sm_cV (pc := 11) (ci := 2) (n := 1) (mc := 0) (ms := 0) rfl (zMet_str (zMet_en (ci := 2) rfl rfl (by decide) mg_X2_readNumber)) (cr_X2_153 (X := X_X2_readSlot) (fr := 3) (frc := 2) (pc := 11) (mc := 0) (ms := 0) rfl (by decide) dX2_readSlot_11) ?_
  refine sm_istore_n (pc := 14) (n := 3) dX2_readSlot_14 rfl ?_
  refine sm_iload_n (pc := 15) (n := 3) dX2_readSlot_15 rfl ?_
  refine sm_iconst (pc := 16) dX2_readSlot_16 zc_i_m1 ?_
  refine sm_icmpS_ne (pc := 17) (tgt := 22) dX2_readSlot_17 (by decide) ?_ ?_
  · skip
    refine sm_cutLR (i := 3) (m0 := 6) ?_
    refine sm_iload_n (pc := 22) (n := 3) dX2_readSlot_22 rfl ?_
    refine sm_cS (pc := 23) (n := 1) (mc := 0) (ms := 0) (zMet_str m_X8_isSlott) (cr_X2_156 (X := X_X2_readSlot) (fr := 3) (frc := 1) (pc := 23) (mc := 0) (ms := 0) rfl (by decide) dX2_readSlot_23) ?_
    refine sm_ifS_ne (pc := 26) (tgt := 38) dX2_readSlot_26 (by decide) ?_ ?_
    · skip
      refine sm_aloadV_n (pc := 38) (n := 0) dX2_readSlot_38 rfl ?_
      refine gf_X2_46 (pc := 39) rfl dX2_readSlot_39 ?_
      refine sm_iload_n (pc := 42) (n := 3) dX2_readSlot_42 rfl ?_
      refine sm_aaloadT (pc := 43) dX2_readSlot_43 ?_
      refine sm_iconst (pc := 44) dX2_readSlot_44 zc_i_0 ?_
      refine sm_aloadV_n (pc := 45) (n := 0) dX2_readSlot_45 rfl ?_
      refine gf_X2_26 (pc := 46) rfl dX2_readSlot_46 ?_
      refine sm_iload_n (pc := 49) (n := 1) dX2_readSlot_49 rfl ?_
      refine sm_aaloadT (pc := 50) dX2_readSlot_50 ?_
      exact scX2_readSlott_51 P
    · skip
      refine sm_aloadV_n (pc := 29) (n := 0) dX2_readSlot_29 rfl ?_
      refine sm_iconst (pc := 30) dX2_readSlot_30 zc_i_4 ?_
      refine sm_iload_n (pc := 31) (n := 2) dX2_readSlot_31 rfl ?_
      refine sm_iload_n (pc := 32) (n := 1) dX2_readSlot_32 rfl ?_
      refine sm_iconst (pc := 33) dX2_readSlot_33 zc_i_0 ?_
      refine sm_cV (pc := 34) (ci := 2) (n := 5) (mc := 0) (ms := 0) rfl (zMet_str m_X2_failt) (cr_X2_115 (X := X_X2_readSlot) (fr := 3) (frc := 2) (pc := 34) (mc := 0) (ms := 0) rfl (by decide) dX2_readSlot_34) ?_
      exact sm_zreturn (pc := 37) dX2_readSlot_37 rfl
  · skip
    refine sm_iconst (pc := 20) dX2_readSlot_20 zc_i_0 ?_
    exact sm_zreturn (pc := 21) dX2_readSlot_21 rfl
noncomputable def f_X2_readSlott {d : Nat} : List zV → zH d → zP d → Bool := zfn 4 (b_X2_readSlott )
theorem m_X2_readSlott {d : Nat} : zMet (d := d) X_X2_readSlot yX2_readSlot 3 (f_X2_readSlott ) := zmet_mk (X := X_X2_readSlot) (by decide) rfl rfl (fun P => s_X2_readSlott P)

noncomputable def lX2_copyt_2 {d : Nat} (P : zP d) (r2 : zK d) : zK d := (xild 3 (xaldV 0 (xgfR 18 12 (xgfI 23 1 (xcmpS tgeR rlGe rhS rlS rhLt (xvret P) (xaldV 2 (xild 3 (xaldV 1 (xild 3 (xalQ 0 (xi2lR (xlas (xincR 3 1 r2)))))))))))))
set_option maxRecDepth 100000 in
set_option maxHeartbeats 4000000 in
theorem slX2_copyt_2 {d : Nat} [zGh] (P : zP d) (r2 : zK d) (hr2 : zSimJ 1 X_X2_copy 1 P 2 r2) : zSim X_X2_copy 1 P 2 (lX2_copyt_2 P r2) := by
  unfold lX2_copyt_2
  refine sm_iload_n (pc := 2) (n := 3) dX2_copy_2 rfl ?_
  refine sm_aloadV_n (pc := 3) (n := 0) dX2_copy_3 rfl ?_
  refine gf_X2_49 (pc := 4) rfl dX2_copy_4 ?_
  refine gf_X2_100 (pc := 7) rfl dX2_copy_7 ?_
  refine sm_icmpS_ge (pc := 10) (tgt := 26) dX2_copy_10 (by decide) ?_ ?_
  · skip
    exact sm_vreturn (pc := 26) dX2_copy_26 rfl
  · skip
    refine sm_aloadV_n (pc := 13) (n := 2) dX2_copy_13 rfl ?_
    refine sm_iload_n (pc := 14) (n := 3) dX2_copy_14 rfl ?_
    refine sm_aloadV_n (pc := 15) (n := 1) dX2_copy_15 rfl ?_
    refine sm_iload_n (pc := 16) (n := 3) dX2_copy_16 rfl ?_
    refine sm_ialoadQ (pc := 17) dX2_copy_17 ?_
    refine sm_i2lR (pc := 18) dX2_copy_18 ?_
    refine sm_lastore (pc := 19) dX2_copy_19 ?_
    refine sm_iincR (pc := 20) (n := 3) dX2_copy_20 zc_i_1 ?_
    refine sm_goto (pc := 23) (tgt := 2) dX2_copy_23 (by decide) ?_
    exact hr2.use
noncomputable def b_X2_copyt {d : Nat} (P : zP d) : zK d := (xpI 0 (xist 3 (xloop (fun r2 => (lX2_copyt_2 P r2)) 100000)))
set_option maxRecDepth 100000 in
set_option maxHeartbeats 4000000 in
theorem s_X2_copyt {d : Nat} [zGh] (P : zP d) : zSim X_X2_copy 1 P 0 (b_X2_copyt P) := by
  unfold b_X2_copyt
  refine sm_iconst (pc := 0) dX2_copy_0 zc_i_0 ?_
  refine sm_istore_n (pc := 1) (n := 3) dX2_copy_1 rfl ?_
  exact (sm_loopJ (j := 1) (fun G1 hG1 r2 hr2 => @slX2_copyt_2 d G1 P r2 hr2) _).use
noncomputable def f_X2_copyt {d : Nat} : List zV → zH d → zP d → Bool := zfn 4 (b_X2_copyt )
theorem m_X2_copyt {d : Nat} : zMet (d := d) X_X2_copy yX2_copy 1 (f_X2_copyt ) := zmet_mk (X := X_X2_copy) (by decide) rfl rfl (fun P => s_X2_copyt P)

noncomputable def bX2_addt_60 {d : Nat} (P : zP d) : zK d := (xpI 0 (xzret P))
set_option maxRecDepth 100000 in
set_option maxHeartbeats 4000000 in
theorem sbX2_addt_60 {d : Nat} [zGh] (P : zP d) : zSim X_X2_add 1 P 60 (bX2_addt_60 P) := by
  unfold bX2_addt_60
  refine sm_iconst (pc := 60) dX2_add_60 zc_i_0 ?_
  exact sm_zreturn (pc := 61) dX2_add_61 rfl
noncomputable def bX2_addt_40 {d : Nat} (P : zP d) (r3 : zK d) : zK d := (xlst 5 (xlld 5 (xpL 1000000000000 (xlcmpR (xjoin (bX2_addt_60 P) (fun j60 => (xif0S tleR rlS rhLe rlGt rhS (xlld 5 (xpL 18446743073709551616 (xlcmpR (xif0S tgeR rlGe rhS rlS rhLt (xaldV 3 (xild 4 (xlld 5 (xlas (xincR 4 1 r3))))) j60)))) j60)))))))
set_option maxRecDepth 100000 in
set_option maxHeartbeats 4000000 in
theorem sbX2_addt_40 {d : Nat} [zGh] (P : zP d) (r3 : zK d) (hr3 : zSimJ 1 X_X2_add 1 P 3 r3) : zSim X_X2_add 1 P 40 (bX2_addt_40 P r3) := by
  unfold bX2_addt_40
  refine sm_lstore (pc := 40) (n := 5) dX2_add_40 ?_
  refine sm_lload (pc := 42) (n := 5) dX2_add_42 ?_
  refine sm_ldc2 (pc := 44) dX2_add_44 wd_765 zc_cl_1000000000000 ?_
  refine sm_lcmpR (pc := 47) dX2_add_47 ?_
  refine sm_joinJ (pc := 48) (pc' := 60) (j := 1) (fun G0 hG0 => @sbX2_addt_60 d G0 P) (fun j60 hj60 => ?_)
  refine sm_ifS_gt (pc := 48) (tgt := 60) dX2_add_48 (by decide) ?_ ?_
  · skip
    exact hj60.use
  · skip
    refine sm_lload (pc := 51) (n := 5) dX2_add_51 ?_
    refine sm_ldc2 (pc := 53) dX2_add_53 wd_770 zc_cl_m1000000000000 ?_
    refine sm_lcmpR (pc := 56) dX2_add_56 ?_
    refine sm_ifS_ge (pc := 57) (tgt := 62) dX2_add_57 (by decide) ?_ ?_
    · skip
      refine sm_aloadV_n (pc := 62) (n := 3) dX2_add_62 rfl ?_
      refine sm_iload (pc := 63) (n := 4) dX2_add_63 ?_
      refine sm_lload (pc := 65) (n := 5) dX2_add_65 ?_
      refine sm_lastore (pc := 67) dX2_add_67 ?_
      refine sm_iincR (pc := 68) (n := 4) dX2_add_68 zc_i_1 ?_
      refine sm_goto (pc := 71) (tgt := 3) dX2_add_71 (by decide) ?_
      exact hr3.use
    · skip
      exact hj60.use
noncomputable def lX2_addt_3 {d : Nat} (P : zP d) (r3 : zK d) : zK d := (xild 4 (xaldV 0 (xgfR 18 12 (xgfI 23 1 (xcmpS tgeR rlGe rhS rlS rhLt (xpI 1 (xzret P)) (xild 2 (xjn wkE (zsp [zL 18446744073709551616] 1) (bX2_addt_40 P r3) (fun j40 => (xif0S teqR rlEq rhEq rlNe rhNe (xaldV 3 (xild 4 (xlal (xaldV 1 (xild 4 (xlal (xbinj zaddj j40))))))) (xaldV 3 (xild 4 (xlal (xaldV 1 (xild 4 (xlal (xbinj zsubj j40))))))))))))))))
set_option maxRecDepth 100000 in
set_option maxHeartbeats 4000000 in
theorem slX2_addt_3 {d : Nat} [zGh] (P : zP d) (r3 : zK d) (hr3 : zSimJ 1 X_X2_add 1 P 3 r3) : zSim X_X2_add 1 P 3 (lX2_addt_3 P r3) := by
  unfold lX2_addt_3
  refine sm_iload (pc := 3) (n := 4) dX2_add_3 ?_
  refine sm_aloadV_n (pc := 5) (n := 0) dX2_add_5 rfl ?_
  refine gf_X2_49 (pc := 6) rfl dX2_add_6 ?_
  refine gf_X2_100 (pc := 9) rfl dX2_add_9 ?_
  refine sm_icmpS_ge (pc := 12) (tgt := 74) dX2_add_12 (by decide) ?_ ?_
  · skip
    refine sm_iconst (pc := 74) dX2_add_74 zc_i_1 ?_
    exact sm_zreturn (pc := 75) dX2_add_75 rfl
  · skip
    refine sm_iload_n (pc := 15) (n := 2) dX2_add_15 rfl ?_
    refine sm_jn (pc := 16) (pc' := 40) (j := 1) wkE_ok (zsp_ok _ _) (fun G0 hG0 => @sbX2_addt_40 d G0 P r3 (hr3.mv hG0 (by decide))) (fun j40 hj40 => ?_)
    refine sm_ifS_eq (pc := 16) (tgt := 31) dX2_add_16 (by decide) ?_ ?_
    · skip
      refine sm_aloadV_n (pc := 31) (n := 3) dX2_add_31 rfl ?_
      refine sm_iload (pc := 32) (n := 4) dX2_add_32 ?_
      refine sm_laload (pc := 34) dX2_add_34 ?_
      refine sm_aloadV_n (pc := 35) (n := 1) dX2_add_35 rfl ?_
      refine sm_iload (pc := 36) (n := 4) dX2_add_36 ?_
      refine sm_laload (pc := 38) dX2_add_38 ?_
      refine sm_ladd (pc := 39) dX2_add_39 ?_
      exact hj40.use
    · skip
      refine sm_aloadV_n (pc := 19) (n := 3) dX2_add_19 rfl ?_
      refine sm_iload (pc := 20) (n := 4) dX2_add_20 ?_
      refine sm_laload (pc := 22) dX2_add_22 ?_
      refine sm_aloadV_n (pc := 23) (n := 1) dX2_add_23 rfl ?_
      refine sm_iload (pc := 24) (n := 4) dX2_add_24 ?_
      refine sm_laload (pc := 26) dX2_add_26 ?_
      refine sm_lsub (pc := 27) dX2_add_27 ?_
      refine sm_goto (pc := 28) (tgt := 40) dX2_add_28 (by decide) ?_
      exact hj40.use
noncomputable def b_X2_addt {d : Nat} (P : zP d) : zK d := (xpI 0 (xist 4 (xloop (fun r3 => (lX2_addt_3 P r3)) 100000)))
set_option maxRecDepth 100000 in
set_option maxHeartbeats 4000000 in
theorem s_X2_addt {d : Nat} [zGh] (P : zP d) : zSim X_X2_add 1 P 0 (b_X2_addt P) := by
  unfold b_X2_addt
  refine sm_iconst (pc := 0) dX2_add_0 zc_i_0 ?_
  refine sm_istore (pc := 1) (n := 4) dX2_add_1 ?_
  exact (sm_loopJ (j := 1) (fun G1 hG1 r3 hr3 => @slX2_addt_3 d G1 P r3 hr3) _).use
noncomputable def f_X2_addt {d : Nat} : List zV → zH d → zP d → Bool := zfn 7 (b_X2_addt )
theorem m_X2_addt {d : Nat} : zMet (d := d) X_X2_add yX2_add 1 (f_X2_addt ) := zmet_mk (X := X_X2_add) (by decide) rfl rfl (fun P => s_X2_addt P)

noncomputable def lX2_multiplyt_2 {d : Nat} (P : zP d) (r2 : zK d) : zK d := (xild 3 (xaldV 0 (xgfR 18 12 (xgfI 23 1 (xcmpS tgeR rlGe rhS rlS rhLt (xpI 1 (xzret P)) (xmck 1 2 3 (xaldV 2 (xild 3 (xdup2V (xlal (xaldV 1 (xild 3 (xlal (xbinj zmulj (xlas (xincR 3 1 r2)))))))))) (xpI 0 (xzret P))))))))
set_option maxRecDepth 100000 in
set_option maxHeartbeats 4000000 in
theorem slX2_multiplyt_2 {d : Nat} [zGh] (P : zP d) (r2 : zK d) (hr2 : zSimJ 1 X_X2_multiply 1 P 2 r2) : zSim X_X2_multiply 1 P 2 (lX2_multiplyt_2 P r2) := by
  unfold lX2_multiplyt_2
  refine sm_iload_n (pc := 2) (n := 3) dX2_multiply_2 rfl ?_
  refine sm_aloadV_n (pc := 3) (n := 0) dX2_multiply_3 rfl ?_
  refine gf_X2_49 (pc := 4) rfl dX2_multiply_4 ?_
  refine gf_X2_100 (pc := 7) rfl dX2_multiply_7 ?_
  refine sm_icmpS_ge (pc := 10) (tgt := 58) dX2_multiply_10 (by decide) ?_ ?_
  · skip
    refine sm_iconst (pc := 58) dX2_multiply_58 zc_i_1 ?_
    exact sm_zreturn (pc := 59) dX2_multiply_59 rfl
  · skip
    refine sm_mck (pc := 13) (n1 := 1) (n2 := 2) (n3 := 3) (tgt := 43) dX2_multiply_13 rfl dX2_multiply_14 rfl dX2_multiply_15 dX2_multiply_16 rfl dX2_multiply_17 dX2_multiply_18 (by decide) dX2_multiply_21 rfl dX2_multiply_22 rfl dX2_multiply_23 dX2_multiply_24 dX2_multiply_27 wd_765 dX2_multiply_30 rfl dX2_multiply_31 rfl dX2_multiply_32 dX2_multiply_33 dX2_multiply_36 dX2_multiply_37 dX2_multiply_38 (by decide) wd_762 wd_763 wd_6 wd_764 (by decide) ?_ ?_
    · skip
      refine sm_aloadV_n (pc := 43) (n := 2) dX2_multiply_43 rfl ?_
      refine sm_iload_n (pc := 44) (n := 3) dX2_multiply_44 rfl ?_
      refine sm_dup2V (pc := 45) dX2_multiply_45 ?_
      refine sm_laload (pc := 46) dX2_multiply_46 ?_
      refine sm_aloadV_n (pc := 47) (n := 1) dX2_multiply_47 rfl ?_
      refine sm_iload_n (pc := 48) (n := 3) dX2_multiply_48 rfl ?_
      refine sm_laload (pc := 49) dX2_multiply_49 ?_
      refine sm_lmul (pc := 50) dX2_multiply_50 ?_
      refine sm_lastore (pc := 51) dX2_multiply_51 ?_
      refine sm_iincR (pc := 52) (n := 3) dX2_multiply_52 zc_i_1 ?_
      refine sm_goto (pc := 55) (tgt := 2) dX2_multiply_55 (by decide) ?_
      exact hr2.use
    · skip
      refine sm_iconst (pc := 41) dX2_multiply_41 zc_i_0 ?_
      exact sm_zreturn (pc := 42) dX2_multiply_42 rfl
noncomputable def b_X2_multiplyt {d : Nat} (P : zP d) : zK d := (xpI 0 (xist 3 (xloop (fun r2 => (lX2_multiplyt_2 P r2)) 100000)))
set_option maxRecDepth 100000 in
set_option maxHeartbeats 4000000 in
theorem s_X2_multiplyt {d : Nat} [zGh] (P : zP d) : zSim X_X2_multiply 1 P 0 (b_X2_multiplyt P) := by
  unfold b_X2_multiplyt
  refine sm_iconst (pc := 0) dX2_multiply_0 zc_i_0 ?_
  refine sm_istore_n (pc := 1) (n := 3) dX2_multiply_1 rfl ?_
  exact (sm_loopJ (j := 1) (fun G1 hG1 r2 hr2 => @slX2_multiplyt_2 d G1 P r2 hr2) _).use
noncomputable def f_X2_multiplyt {d : Nat} : List zV → zH d → zP d → Bool := zfn 4 (b_X2_multiplyt )
theorem m_X2_multiplyt {d : Nat} : zMet (d := d) X_X2_multiply yX2_multiply 1 (f_X2_multiplyt ) := zmet_mk (X := X_X2_multiply) (by decide) rfl rfl (fun P => s_X2_multiplyt P)

noncomputable def bX2_rowFort_66 {d : Nat} (P : zP d) : zK d := (xaldV 0 (xgfR 18 12 (xgfR 23 12 (xild 2 (xaaT (xaret P))))))
set_option maxRecDepth 100000 in
set_option maxHeartbeats 4000000 in
theorem sbX2_rowFort_66 {d : Nat} [zGh] (P : zP d) : zSim X_X2_rowFor 1 P 66 (bX2_rowFort_66 P) := by
  unfold bX2_rowFort_66
  refine sm_aloadV_n (pc := 66) (n := 0) dX2_rowFor_66 rfl ?_
  refine gf_X2_49 (pc := 67) rfl dX2_rowFor_67 ?_
  refine gf_X2_188 (pc := 70) rfl dX2_rowFor_70 ?_
  refine sm_iload_n (pc := 73) (n := 2) dX2_rowFor_73 rfl ?_
  refine sm_aaloadT (pc := 74) dX2_rowFor_74 ?_
  exact sm_areturn (pc := 75) dX2_rowFor_75 rfl (by first | exact Or.inl ⟨_, rfl⟩ | exact Or.inr ⟨_, rfl⟩)
noncomputable def bX2_rowFort_36 {d : Nat} (P : zP d) : zK d := (xaldV 0 (xgfR 18 13 (xgfR 21 6 (xild 2 (xaaT (xaret P))))))
set_option maxRecDepth 100000 in
set_option maxHeartbeats 4000000 in
theorem sbX2_rowFort_36 {d : Nat} [zGh] (P : zP d) : zSim X_X2_rowFor 1 P 36 (bX2_rowFort_36 P) := by
  unfold bX2_rowFort_36
  refine sm_aloadV_n (pc := 36) (n := 0) dX2_rowFor_36 rfl ?_
  refine gf_X2_53 (pc := 37) rfl dX2_rowFor_37 ?_
  refine gf_X2_178 (pc := 40) rfl dX2_rowFor_40 ?_
  refine sm_iload_n (pc := 43) (n := 2) dX2_rowFor_43 rfl ?_
  refine sm_aaloadT (pc := 44) dX2_rowFor_44 ?_
  exact sm_areturn (pc := 45) dX2_rowFor_45 rfl (by first | exact Or.inl ⟨_, rfl⟩ | exact Or.inr ⟨_, rfl⟩)
noncomputable def bX2_rowFort_56 {d : Nat} (P : zP d) : zK d := (xaldV 0 (xgfR 18 12 (xgfR 23 11 (xild 2 (xaaT (xaret P))))))
set_option maxRecDepth 100000 in
set_option maxHeartbeats 4000000 in
theorem sbX2_rowFort_56 {d : Nat} [zGh] (P : zP d) : zSim X_X2_rowFor 1 P 56 (bX2_rowFort_56 P) := by
  unfold bX2_rowFort_56
  refine sm_aloadV_n (pc := 56) (n := 0) dX2_rowFor_56 rfl ?_
  refine gf_X2_49 (pc := 57) rfl dX2_rowFor_57 ?_
  refine gf_X2_185 (pc := 60) rfl dX2_rowFor_60 ?_
  refine sm_iload_n (pc := 63) (n := 2) dX2_rowFor_63 rfl ?_
  refine sm_aaloadT (pc := 64) dX2_rowFor_64 ?_
  exact sm_areturn (pc := 65) dX2_rowFor_65 rfl (by first | exact Or.inl ⟨_, rfl⟩ | exact Or.inr ⟨_, rfl⟩)
noncomputable def bX2_rowFort_46 {d : Nat} (P : zP d) : zK d := (xaldV 0 (xgfR 18 13 (xgfR 21 9 (xild 2 (xaaT (xaret P))))))
set_option maxRecDepth 100000 in
set_option maxHeartbeats 4000000 in
theorem sbX2_rowFort_46 {d : Nat} [zGh] (P : zP d) : zSim X_X2_rowFor 1 P 46 (bX2_rowFort_46 P) := by
  unfold bX2_rowFort_46
  refine sm_aloadV_n (pc := 46) (n := 0) dX2_rowFor_46 rfl ?_
  refine gf_X2_53 (pc := 47) rfl dX2_rowFor_47 ?_
  refine gf_X2_182 (pc := 50) rfl dX2_rowFor_50 ?_
  refine sm_iload_n (pc := 53) (n := 2) dX2_rowFor_53 rfl ?_
  refine sm_aaloadT (pc := 54) dX2_rowFor_54 ?_
  exact sm_areturn (pc := 55) dX2_rowFor_55 rfl (by first | exact Or.inl ⟨_, rfl⟩ | exact Or.inr ⟨_, rfl⟩)
noncomputable def b_X2_rowFort {d : Nat} (P : zP d) : zK d := (xild 1 (xlswV [(68, (bX2_rowFort_36 P)), (77, (bX2_rowFort_56 P)), (80, (bX2_rowFort_46 P))] (bX2_rowFort_66 P)))
set_option maxRecDepth 100000 in
set_option maxHeartbeats 4000000 in
theorem s_X2_rowFort {d : Nat} [zGh] (P : zP d) : zSim X_X2_rowFor 1 P 0 (b_X2_rowFort P) := by
  unfold b_X2_rowFort
  refine sm_iload_n (pc := 0) (n := 1) dX2_rowFor_0 rfl ?_
  refine sm_lswV (pc := 1) (tdf := 66) [(68, 36), (77, 56), (80, 46)] dX2_rowFor_1 (by decide +kernel) (by decide +kernel) rfl (by decide) (sbX2_rowFort_66 P) (fun i n t k ht hk => ?_)
  match i, ht, hk with
  | 0, ht, hk => cases ht; cases hk; exact sbX2_rowFort_36 P
  | 1, ht, hk => cases ht; cases hk; exact sbX2_rowFort_56 P
  | 2, ht, hk => cases ht; cases hk; exact sbX2_rowFort_46 P
  | i + 3, ht, hk => cases ht
noncomputable def f_X2_rowFort {d : Nat} : List zV → zH d → zP d → Bool := zfn 3 (b_X2_rowFort )
theorem m_X2_rowFort {d : Nat} : zMet (d := d) X_X2_rowFor yX2_rowFor 1 (f_X2_rowFort ) := zmet_mk (X := X_X2_rowFor) (by decide) rfl rfl (fun P => s_X2_rowFort P)

noncomputable def bX7_numberOft_72 {d : Nat} (P : zP d) (r2 : zK d) : zK d := (xincR 3 1 r2)
set_option maxRecDepth 100000 in
set_option maxHeartbeats 4000000 in
theorem sbX7_numberOft_72 {d : Nat} [zGh] (P : zP d) (r2 : zK d) (hr2 : zSimJ 1 X_X7_numberOf 1 P 2 r2) : zSim X_X7_numberOf 1 P 72 (bX7_numberOft_72 P r2) := by
  unfold bX7_numberOft_72
  refine sm_iincR (pc := 72) (n := 3) dX7_numberOf_72 zc_i_1 ?_
  refine sm_goto (pc := 75) (tgt := 2) dX7_numberOf_75 (by decide) ?_
  exact hr2.use
noncomputable def bX7_numberOft_56 {d : Nat} (P : zP d) (j72 : zK d) : zK d := (xild 5 (xaldV 4 (xlen (xcmpS teqR rlEq rhEq rlNe rhNe (xild 5 (xild 2 (xcmpS teqR rlEq rhEq rlNe rhNe (xild 3 (xiret P)) j72))) j72))))
set_option maxRecDepth 100000 in
set_option maxHeartbeats 4000000 in
theorem sbX7_numberOft_56 {d : Nat} [zGh] (P : zP d) (j72 : zK d) (hj72 : zSimJ 1 X_X7_numberOf 1 P 72 j72) : zSim X_X7_numberOf 1 P 56 (bX7_numberOft_56 P j72) := by
  unfold bX7_numberOft_56
  refine sm_iload (pc := 56) (n := 5) dX7_numberOf_56 ?_
  refine sm_aloadV (pc := 58) (n := 4) dX7_numberOf_58 ?_
  refine sm_arraylength (pc := 60) dX7_numberOf_60 ?_
  refine sm_icmpS_ne (pc := 61) (tgt := 72) dX7_numberOf_61 (by decide) ?_ ?_
  · skip
    exact hj72.use
  · skip
    refine sm_iload (pc := 64) (n := 5) dX7_numberOf_64 ?_
    refine sm_iload_n (pc := 66) (n := 2) dX7_numberOf_66 rfl ?_
    refine sm_icmpS_ne (pc := 67) (tgt := 72) dX7_numberOf_67 (by decide) ?_ ?_
    · skip
      exact hj72.use
    · skip
      refine sm_iload_n (pc := 70) (n := 3) dX7_numberOf_70 rfl ?_
      exact sm_ireturn (pc := 71) dX7_numberOf_71 rfl
noncomputable def lX7_numberOft_24 {d : Nat} (P : zP d) (j72 : zK d) (r24 : zK d) : zK d := (xild 5 (xaldV 4 (xlen (xjoin (bX7_numberOft_56 P j72) (fun j56 => (xcmpS tgeR rlGe rhS rlS rhLt j56 (xild 5 (xild 2 (xcmpS tgeR rlGe rhS rlS rhLt j56 (xaldV 4 (xild 5 (xalQ 0 (xaldV 1 (xild 5 (xalQ 0 (xcmpS teqR rlEq rhEq rlNe rhNe (xincR 5 1 r24) j56))))))))))))))))
set_option maxRecDepth 100000 in
set_option maxHeartbeats 4000000 in
theorem slX7_numberOft_24 {d : Nat} [zGh] (P : zP d) (j72 : zK d) (r24 : zK d) (hj72 : zSimJ 1 X_X7_numberOf 1 P 72 j72) (hr24 : zSimJ 1 X_X7_numberOf 1 P 24 r24) : zSim X_X7_numberOf 1 P 24 (lX7_numberOft_24 P j72 r24) := by
  unfold lX7_numberOft_24
  refine sm_iload (pc := 24) (n := 5) dX7_numberOf_24 ?_
  refine sm_aloadV (pc := 26) (n := 4) dX7_numberOf_26 ?_
  refine sm_arraylength (pc := 28) dX7_numberOf_28 ?_
  refine sm_joinJ (pc := 29) (pc' := 56) (j := 1) (fun G0 hG0 => @sbX7_numberOft_56 d G0 P j72 (hj72.mv hG0 (by decide))) (fun j56 hj56 => ?_)
  refine sm_icmpS_ge (pc := 29) (tgt := 56) dX7_numberOf_29 (by decide) ?_ ?_
  · skip
    exact hj56.use
  · skip
    refine sm_iload (pc := 32) (n := 5) dX7_numberOf_32 ?_
    refine sm_iload_n (pc := 34) (n := 2) dX7_numberOf_34 rfl ?_
    refine sm_icmpS_ge (pc := 35) (tgt := 56) dX7_numberOf_35 (by decide) ?_ ?_
    · skip
      exact hj56.use
    · skip
      refine sm_aloadV (pc := 38) (n := 4) dX7_numberOf_38 ?_
      refine sm_iload (pc := 40) (n := 5) dX7_numberOf_40 ?_
      refine sm_ialoadQ (pc := 42) dX7_numberOf_42 ?_
      refine sm_aloadV_n (pc := 43) (n := 1) dX7_numberOf_43 rfl ?_
      refine sm_iload (pc := 44) (n := 5) dX7_numberOf_44 ?_
      refine sm_ialoadQ (pc := 46) dX7_numberOf_46 ?_
      refine sm_icmpS_ne (pc := 47) (tgt := 56) dX7_numberOf_47 (by decide) ?_ ?_
      · skip
        exact hj56.use
      · skip
        refine sm_iincR (pc := 50) (n := 5) dX7_numberOf_50 zc_i_1 ?_
        refine sm_goto (pc := 53) (tgt := 24) dX7_numberOf_53 (by decide) ?_
        exact hr24.use
noncomputable def lX7_numberOft_2 {d : Nat} (P : zP d) (r2 : zK d) : zK d := (xild 3 (xaldV 0 (xgfI 23 1 (xcmpS tgeR rlGe rhS rlS rhLt (xpI 4294967295 (xiret P)) (xjn (wkU 4 (wkU 5 wkE)) (zsp [] 0) (bX7_numberOft_72 P r2) (fun j72 => (xaldV 0 (xgfR 23 3 (xild 3 (xaaT (xgfR 20 2 (xastV 4 (xpI 0 (xist 5 (xloop (fun r24 => (lX7_numberOft_24 P j72 r24)) 100000)))))))))))))))
set_option maxRecDepth 100000 in
set_option maxHeartbeats 4000000 in
theorem slX7_numberOft_2 {d : Nat} [zGh] (P : zP d) (r2 : zK d) (hr2 : zSimJ 1 X_X7_numberOf 1 P 2 r2) : zSim X_X7_numberOf 1 P 2 (lX7_numberOft_2 P r2) := by
  unfold lX7_numberOft_2
  refine sm_iload_n (pc := 2) (n := 3) dX7_numberOf_2 rfl ?_
  refine sm_aloadV_n (pc := 3) (n := 0) dX7_numberOf_3 rfl ?_
  refine gf_X7_19 (pc := 4) rfl dX7_numberOf_4 ?_
  refine sm_icmpS_ge (pc := 7) (tgt := 78) dX7_numberOf_7 (by decide) ?_ ?_
  · skip
    refine sm_iconst (pc := 78) dX7_numberOf_78 zc_i_m1 ?_
    exact sm_ireturn (pc := 79) dX7_numberOf_79 rfl
  · skip
    refine sm_jn (pc := 10) (pc' := 72) (j := 1) (wkU_ok (wkU_ok wkE_ok)) (zsp_ok _ _) (fun G0 hG0 => @sbX7_numberOft_72 d G0 P r2 (hr2.mv hG0 (by decide))) (fun j72 hj72 => ?_)
    refine sm_aloadV_n (pc := 10) (n := 0) dX7_numberOf_10 rfl ?_
    refine gf_X7_24 (pc := 11) rfl dX7_numberOf_11 ?_
    refine sm_iload_n (pc := 14) (n := 3) dX7_numberOf_14 rfl ?_
    refine sm_aaloadT (pc := 15) dX7_numberOf_15 ?_
    refine gf_X7_98 (pc := 16) rfl dX7_numberOf_16 ?_
    refine sm_astoreV (pc := 19) (n := 4) dX7_numberOf_19 ?_
    refine sm_iconst (pc := 21) dX7_numberOf_21 zc_i_0 ?_
    refine sm_istore (pc := 22) (n := 5) dX7_numberOf_22 ?_
    exact (sm_loopJ (j := 1) (fun G1 hG1 r24 hr24 => @slX7_numberOft_24 d G1 P j72 r24 (hj72.mv hG1 (by decide)) hr24) _).use
noncomputable def b_X7_numberOft {d : Nat} (P : zP d) : zK d := (xpI 0 (xist 3 (xloop (fun r2 => (lX7_numberOft_2 P r2)) 100000)))
set_option maxRecDepth 100000 in
set_option maxHeartbeats 4000000 in
theorem s_X7_numberOft {d : Nat} [zGh] (P : zP d) : zSim X_X7_numberOf 1 P 0 (b_X7_numberOft P) := by
  unfold b_X7_numberOft
  refine sm_iconst (pc := 0) dX7_numberOf_0 zc_i_0 ?_
  refine sm_istore_n (pc := 1) (n := 3) dX7_numberOf_1 rfl ?_
  exact (sm_loopJ (j := 1) (fun G1 hG1 r2 hr2 => @slX7_numberOft_2 d G1 P r2 hr2) _).use
noncomputable def f_X7_numberOft {d : Nat} : List zV → zH d → zP d → Bool := zfn 6 (b_X7_numberOft )
theorem m_X7_numberOft {d : Nat} : zMet (d := d) X_X7_numberOf yX7_numberOf 1 (f_X7_numberOft ) := zmet_mk (X := X_X7_numberOf) (by decide) rfl rfl (fun P => s_X7_numberOft P)

noncomputable def bX2_readListt_84 {d : Nat} (P : zP d) (r33 : zK d) : zK d := (xaldV 0 (xdup (xgfI 18 8 (xpI 1 (xbin zaddR (xpfI 18 8 (xaldV 0 (xcV 18 1 0 0 (zstr (zenT 18 14 g_X2_next)) (xist 3 (xild 3 (xpI 93 (xcmpS teqR rlEq rhEq rlNe rhNe (xaldV 0 (xdup (xgfI 18 14 (xpI 1 (xbin zaddR (xpfI 18 14 (xpI 1 (xzret P)))))))) (xild 3 (xpI 44 (xcmpS teqR rlEq rhEq rlNe rhNe (xincR 1 1 r33) (xaldV 0 (xaldV 0 (xgfI 18 14 (xcV 18 2 0 0 (zstr f_X2_refuset) (xzret P))))))))))))))))))))
set_option maxRecDepth 100000 in
set_option maxHeartbeats 4000000 in
theorem sbX2_readListt_84 {d : Nat} [zGh] (P : zP d) (r33 : zK d) (hr33 : zSimJ 1 X_X2_readList 3 P 33 r33) : zSim X_X2_readList 3 P 84 (bX2_readListt_84 P r33) := by
  unfold bX2_readListt_84
  refine sm_aloadV_n (pc := 84) (n := 0) dX2_readList_84 rfl ?_
  refine sm_dup (pc := 85) dX2_readList_85 ?_
  refine gf_X2_162 (pc := 86) rfl dX2_readList_86 ?_
  refine sm_iconst (pc := 89) dX2_readList_89 zc_i_1 ?_
  refine sm_iaddR (pc := 90) dX2_readList_90 ?_
  refine pf_X2_162 (pc := 91) rfl dX2_readList_91 ?_
  refine sm_aloadV_n (pc := 94) (n := 0) dX2_readList_94 rfl ?_
  refine sm_cV (pc := 95) (ci := 2) (n := 1) (mc := 0) (ms := 0) rfl (zMet_str (zMet_en (ci := 2) rfl rfl (by decide) mg_X2_next)) (cr_X2_74 (X := X_X2_readList) (fr := 3) (frc := 1) (pc := 95) (mc := 0) (ms := 0) rfl (by decide) dX2_readList_95) ?_
  refine sm_istore_n (pc := 98) (n := 3) dX2_readList_98 rfl ?_
  refine sm_iload_n (pc := 99) (n := 3) dX2_readList_99 rfl ?_
  refine sm_bipush (pc := 100) dX2_readList_100 zc_b_93 ?_
  refine sm_icmpS_ne (pc := 102) (tgt := 117) dX2_readList_102 (by decide) ?_ ?_
  · skip
    refine sm_iload_n (pc := 117) (n := 3) dX2_readList_117 rfl ?_
    refine sm_bipush (pc := 118) dX2_readList_118 zc_b_44 ?_
    refine sm_icmpS_eq (pc := 120) (tgt := 132) dX2_readList_120 (by decide) ?_ ?_
    · skip
      refine sm_iincR (pc := 132) (n := 1) dX2_readList_132 zc_i_1 ?_
      refine sm_goto (pc := 135) (tgt := 33) dX2_readList_135 (by decide) ?_
      exact hr33.use
    · skip
      refine sm_aloadV_n (pc := 123) (n := 0) dX2_readList_123 rfl ?_
      refine sm_aloadV_n (pc := 124) (n := 0) dX2_readList_124 rfl ?_
      refine gf_X2_60 (pc := 125) rfl dX2_readList_125 ?_
      refine sm_cV (pc := 128) (ci := 2) (n := 2) (mc := 0) (ms := 0) rfl (zMet_str m_X2_refuset) (cr_X2_78 (X := X_X2_readList) (fr := 3) (frc := 2) (pc := 128) (mc := 0) (ms := 0) rfl (by decide) dX2_readList_128) ?_
      exact sm_zreturn (pc := 131) dX2_readList_131 rfl
  · skip
    refine sm_aloadV_n (pc := 105) (n := 0) dX2_readList_105 rfl ?_
    refine sm_dup (pc := 106) dX2_readList_106 ?_
    refine gf_X2_60 (pc := 107) rfl dX2_readList_107 ?_
    refine sm_iconst (pc := 110) dX2_readList_110 zc_i_1 ?_
    refine sm_iaddR (pc := 111) dX2_readList_111 ?_
    refine pf_X2_60 (pc := 112) rfl dX2_readList_112 ?_
    refine sm_iconst (pc := 115) dX2_readList_115 zc_i_1 ?_
    exact sm_zreturn (pc := 116) dX2_readList_116 rfl
noncomputable def cX2_readListt_79 {d : Nat} (P : zP d) (j84 : zK d) : zK d := (xgfI 18 8 (xild 2 (xasQ 0 (fun v => v) j84)))
set_option maxRecDepth 100000 in
set_option maxHeartbeats 4000000 in
theorem scX2_readListt_79 {d : Nat} [zGh] (P : zP d) (j84 : zK d) (hj84 : zSimJ 1 X_X2_readList 3 P 84 j84) : zSim X_X2_readList 3 P 79 (cX2_readListt_79 P j84) := by
  unfold cX2_readListt_79
  refine gf_X2_162 (pc := 79) rfl dX2_readList_79 ?_
  refine sm_iload_n (pc := 82) (n := 2) dX2_readList_82 rfl ?_
  refine sm_iastoreQ (pc := 83) dX2_readList_83 ?_
  exact hj84.use
noncomputable def lX2_readListt_33 {d : Nat} (P : zP d) (r33 : zK d) : zK d := (xild 1 (xpI 200 (xcmpS tgeR rlGe rhS rlS rhLt (xaldV 0 (xaldV 0 (xgfI 18 14 (xcV 18 2 0 0 (zstr f_X2_refuset) (xzret P))))) (xaldV 0 (xdup (xgfI 18 14 (xpI 1 (xbin zaddR (xpfI 18 14 (xaldV 0 (xcV 18 1 0 0 (zstr (zenT 18 14 g_X2_readNumber)) (xist 2 (xild 2 (xpI 4294967295 (xcmpS teqR rlEq rhEq rlNe rhNe (xpI 0 (xzret P)) (xaldV 0 (xgfI 18 8 (xaldV 0 (xgfR 18 7 (xlen (xjoin (bX2_readListt_84 P r33) (fun j84 => (xcmpS tgeR rlGe rhS rlS rhLt j84 (xaldV 0 (xgfR 18 7 (xaldV 0 (cX2_readListt_79 P j84)))))))))))))))))))))))))))
set_option maxRecDepth 100000 in
set_option maxHeartbeats 4000000 in
theorem slX2_readListt_33 {d : Nat} [zGh] (P : zP d) (r33 : zK d) (hr33 : zSimJ 1 X_X2_readList 3 P 33 r33) : zSim X_X2_readList 3 P 33 (lX2_readListt_33 P r33) := by
  unfold lX2_readListt_33
  refine sm_iload_n (pc := 33) (n := 1) dX2_readList_33 rfl ?_
  refine sm_sipush (pc := 34) dX2_readList_34 zc_s_200 ?_
  refine sm_icmpS_ge (pc := 37) (tgt := 138) dX2_readList_37 (by decide) ?_ ?_
  · skip
    refine sm_aloadV_n (pc := 138) (n := 0) dX2_readList_138 rfl ?_
    refine sm_aloadV_n (pc := 139) (n := 0) dX2_readList_139 rfl ?_
    refine gf_X2_60 (pc := 140) rfl dX2_readList_140 ?_
    refine sm_cV (pc := 143) (ci := 2) (n := 2) (mc := 0) (ms := 0) rfl (zMet_str m_X2_refuset) (cr_X2_78 (X := X_X2_readList) (fr := 3) (frc := 2) (pc := 143) (mc := 0) (ms := 0) rfl (by decide) dX2_readList_143) ?_
    exact sm_zreturn (pc := 146) dX2_readList_146 rfl
  · skip
    refine sm_aloadV_n (pc := 40) (n := 0) dX2_readList_40 rfl ?_
    refine sm_dup (pc := 41) dX2_readList_41 ?_
    refine gf_X2_60 (pc := 42) rfl dX2_readList_42 ?_
    refine sm_iconst (pc := 45) dX2_readList_45 zc_i_1 ?_
    refine sm_iaddR (pc := 46) dX2_readList_46 ?_
    refine pf_X2_60 (pc := 47) rfl dX2_readList_47 ?_
    refine sm_aloadV_n (pc := 50) (n := 0) dX2_readList_50 rfl ?_
    refine sm_cV (pc := 51) (ci := 2) (n := 1) (mc := 0) (ms := 0) rfl (zMet_str (zMet_en (ci := 2) rfl rfl (by decide) mg_X2_readNumber)) (cr_X2_153 (X := X_X2_readList) (fr := 3) (frc := 2) (pc := 51) (mc := 0) (ms := 0) rfl (by decide) dX2_readList_51) ?_
    refine sm_istore_n (pc := 54) (n := 2) dX2_readList_54 rfl ?_
    refine sm_iload_n (pc := 55) (n := 2) dX2_readList_55 rfl ?_
    refine sm_iconst (pc := 56) dX2_readList_56 zc_i_m1 ?_
    refine sm_icmpS_ne (pc := 57) (tgt := 62) dX2_readList_57 (by decide) ?_ ?_
    · skip
      refine sm_aloadV_n (pc := 62) (n := 0) dX2_readList_62 rfl ?_
      refine gf_X2_162 (pc := 63) rfl dX2_readList_63 ?_
      refine sm_aloadV_n (pc := 66) (n := 0) dX2_readList_66 rfl ?_
      refine gf_X2_39 (pc := 67) rfl dX2_readList_67 ?_
      refine sm_arraylength (pc := 70) dX2_readList_70 ?_
      refine sm_joinJ (pc := 71) (pc' := 84) (j := 1) (fun G0 hG0 => @sbX2_readListt_84 d G0 P r33 (hr33.mv hG0 (by decide))) (fun j84 hj84 => ?_)
      refine sm_icmpS_ge (pc := 71) (tgt := 84) dX2_readList_71 (by decide) ?_ ?_
      · skip
        exact hj84.use
      · skip
        refine sm_aloadV_n (pc := 74) (n := 0) dX2_readList_74 rfl ?_
        refine gf_X2_39 (pc := 75) rfl dX2_readList_75 ?_
        refine sm_aloadV_n (pc := 78) (n := 0) dX2_readList_78 rfl ?_
        exact scX2_readListt_79 P j84 hj84
    · skip
      refine sm_iconst (pc := 60) dX2_readList_60 zc_i_0 ?_
      exact sm_zreturn (pc := 61) dX2_readList_61 rfl
noncomputable def b_X2_readListt {d : Nat} (P : zP d) : zK d := (xaldV 0 (xcV 18 1 0 0 (zstr (zenT 18 14 g_X2_next)) (xpI 91 (xcmpS teqR rlEq rhEq rlNe rhNe (xaldV 0 (xaldV 0 (xgfI 18 14 (xpfI 18 9 (xaldV 0 (xpI 0 (xpfI 18 8 (xpI 0 (xist 1 (xloop (fun r33 => (lX2_readListt_33 P r33)) 100000)))))))))) (xaldV 0 (xaldV 0 (xgfI 18 14 (xcV 18 2 0 0 (zstr f_X2_refuset) (xzret P)))))))))
set_option maxRecDepth 100000 in
set_option maxHeartbeats 4000000 in
theorem s_X2_readListt {d : Nat} [zGh] (P : zP d) : zSim X_X2_readList 3 P 0 (b_X2_readListt P) := by
  unfold b_X2_readListt
  refine sm_aloadV_n (pc := 0) (n := 0) dX2_readList_0 rfl ?_
  refine sm_cV (pc := 1) (ci := 2) (n := 1) (mc := 0) (ms := 0) rfl (zMet_str (zMet_en (ci := 2) rfl rfl (by decide) mg_X2_next)) (cr_X2_74 (X := X_X2_readList) (fr := 3) (frc := 1) (pc := 1) (mc := 0) (ms := 0) rfl (by decide) dX2_readList_1) ?_
  refine sm_bipush (pc := 4) dX2_readList_4 zc_b_91 ?_
  refine sm_icmpS_eq (pc := 6) (tgt := 18) dX2_readList_6 (by decide) ?_ ?_
  · skip
    refine sm_aloadV_n (pc := 18) (n := 0) dX2_readList_18 rfl ?_
    refine sm_aloadV_n (pc := 19) (n := 0) dX2_readList_19 rfl ?_
    refine gf_X2_60 (pc := 20) rfl dX2_readList_20 ?_
    refine pf_X2_159 (pc := 23) rfl dX2_readList_23 ?_
    refine sm_aloadV_n (pc := 26) (n := 0) dX2_readList_26 rfl ?_
    refine sm_iconst (pc := 27) dX2_readList_27 zc_i_0 ?_
    refine pf_X2_162 (pc := 28) rfl dX2_readList_28 ?_
    refine sm_iconst (pc := 31) dX2_readList_31 zc_i_0 ?_
    refine sm_istore_n (pc := 32) (n := 1) dX2_readList_32 rfl ?_
    exact (sm_loopJ (j := 1) (fun G1 hG1 r33 hr33 => @slX2_readListt_33 d G1 P r33 hr33) _).use
  · skip
    refine sm_aloadV_n (pc := 9) (n := 0) dX2_readList_9 rfl ?_
    refine sm_aloadV_n (pc := 10) (n := 0) dX2_readList_10 rfl ?_
    refine gf_X2_60 (pc := 11) rfl dX2_readList_11 ?_
    refine sm_cV (pc := 14) (ci := 2) (n := 2) (mc := 0) (ms := 0) rfl (zMet_str m_X2_refuset) (cr_X2_78 (X := X_X2_readList) (fr := 3) (frc := 2) (pc := 14) (mc := 0) (ms := 0) rfl (by decide) dX2_readList_14) ?_
    exact sm_zreturn (pc := 17) dX2_readList_17 rfl
noncomputable def f_X2_readListt {d : Nat} : List zV → zH d → zP d → Bool := zfn 4 (b_X2_readListt )
theorem m_X2_readListt {d : Nat} : zMet (d := d) X_X2_readList yX2_readList 3 (f_X2_readListt ) := zmet_mk (X := X_X2_readList) (by decide) rfl rfl (fun P => s_X2_readListt P)

def hs_X2_readList : zH 3 := (show zT 3 from ((((18, 15, 0x1000000c9800000000e800000000d800000000c0000000002010000000001000000c900000000058000000007800000000680000000058000000004800000000380000000020000000004), (22, 2, 0x1000000c90000000003)), ((0, 200, zun 40 200 4294967296), (17, 4, 0x10000001080000000c301000000000100000000))), (((0, 6, 0x10000000001000000000100000000010000000001000000000100000000), (0, 0, 0)), ((0, 0, 0), (0, 0, 0)))), (5, (0, 0)))
def hs_X2_readList_o0 : zH 3 := (show zT 3 from ((((18, 15, 0x1000000c9800000000e800000000d800000000c0000000002010000000001000000c900000000058000000007800000000680000000058000000004800000000380000000020000000004), (22, 2, 0x1000000c90000000003)), ((0, 200, zun 40 200 4294967296), (17, 4, 0x10000001080000000c301000000000100000000))), (((0, 6, 0x10000000001000000000100000000010000000001000000000100000000), (0, 0, 0)), ((0, 0, 0), (0, 0, 0)))), (5, (0, 0)))
def hs_X2_readList_o1 : zH 3 := (show zT 3 from ((((18, 15, 0x1000000c9800000000e800000000d800000000c000000000201000000c801000000c900000000058000000007800000000680000000058000000004800000000380000000020000000004), (22, 2, 0x1000000c90000000003)), ((0, 200, zun 40 200 4294967296), (17, 4, 0x10000001080000000c301000000000100000000))), (((0, 6, 0x10000000001000000000100000000010000000001000000000100000000), (0, 0, 0)), ((0, 0, 0), (0, 0, 0)))), (5, (0, 0)))
set_option maxRecDepth 100000 in
theorem ev_X2_readList : f_X2_readListt [zR 1] hs_X2_readList (zrkL [(zI 0, hs_X2_readList_o0), (zI 1, hs_X2_readList_o1)]) = true := by decide +kernel
noncomputable def g_X2_readList {d : Nat} : List zV → zH d → zP d → Bool := zsmyL [(0, 0), (1, 10), (2, 0), (1, 0), (1, 7)] [zR 1] hs_X2_readList [(zI 0, hs_X2_readList_o0), (zI 1, hs_X2_readList_o1)]
theorem mg_X2_readList {d : Nat} : zMet (d := d) X_X2_readList yX2_readList 3 g_X2_readList := zMet_smL m_X2_readListt ev_X2_readList

noncomputable def bX2_takeCharactert_86 {d : Nat} (f1 : List zV → zH d → zP d → Bool) (P : zP d) : zK d := (xaldV 0 (xaldV 0 (xild 2 (xild 3 (xcV 18 3 0 0 (zstr f_X2_rowFort) (xaldV 0 (xgfR 18 3 (xild 1 (xaaT (xcV 18 3 0 0 (zstr f_X2_copyt) (xpI 1 (xzret P))))))))))))
set_option maxRecDepth 100000 in
set_option maxHeartbeats 4000000 in
theorem sbX2_takeCharactert_86 {d : Nat} [zGh] (n1 : Nat) (f1 : List zV → zH d → zP d → Bool) (hf1 : zMet X_X7_numberOf yX7_numberOf n1 f1) (P : zP d) : zSim X_X2_takeCharacter (n1 + 3) P 86 (bX2_takeCharactert_86 f1 P) := by
  unfold bX2_takeCharactert_86
  refine sm_aloadV_n (pc := 86) (n := 0) dX2_takeCharacter_86 rfl ?_
  refine sm_aloadV_n (pc := 87) (n := 0) dX2_takeCharacter_87 rfl ?_
  refine sm_iload_n (pc := 88) (n := 2) dX2_takeCharacter_88 rfl ?_
  refine sm_iload_n (pc := 89) (n := 3) dX2_takeCharacter_89 rfl ?_
  refine sm_cV (pc := 90) (ci := 2) (n := 3) (mc := 0) (ms := 0) rfl (zMet_str m_X2_rowFort) (cr_X2_174 (X := X_X2_takeCharacter) (fr := n1 + 3) (frc := 1) (pc := 90) (mc := 0) (ms := 0) rfl (by omega) dX2_takeCharacter_90) ?_
  refine sm_aloadV_n (pc := 93) (n := 0) dX2_takeCharacter_93 rfl ?_
  refine gf_X2_26 (pc := 94) rfl dX2_takeCharacter_94 ?_
  refine sm_iload_n (pc := 97) (n := 1) dX2_takeCharacter_97 rfl ?_
  refine sm_aaloadT (pc := 98) dX2_takeCharacter_98 ?_
  refine sm_cV (pc := 99) (ci := 2) (n := 3) (mc := 0) (ms := 0) rfl (zMet_str m_X2_copyt) (cr_X2_143 (X := X_X2_takeCharacter) (fr := n1 + 3) (frc := 1) (pc := 99) (mc := 0) (ms := 0) rfl (by omega) dX2_takeCharacter_99) ?_
  refine sm_iconst (pc := 102) dX2_takeCharacter_102 zc_i_1 ?_
  exact sm_zreturn (pc := 103) dX2_takeCharacter_103 rfl
noncomputable def bX2_takeCharactert_61 {d : Nat} (f1 : List zV → zH d → zP d → Bool) (P : zP d) (j86 : zK d) : zK d := (xaldV 0 (xgfR 18 13 (xild 3 (xcV 21 2 0 0 (zstr f_X5_isRegulart) (xif0S teqR rlEq rhEq rlNe rhNe (xaldV 0 (xpI 3 (xaldV 0 (xgfR 18 6 (xild 1 (xalQ 0 (xild 1 (xpI 0 (xcV 18 5 0 0 (zstr f_X2_failt) (xzret P)))))))))) j86)))))
set_option maxRecDepth 100000 in
set_option maxHeartbeats 4000000 in
theorem sbX2_takeCharactert_61 {d : Nat} [zGh] (n1 : Nat) (f1 : List zV → zH d → zP d → Bool) (hf1 : zMet X_X7_numberOf yX7_numberOf n1 f1) (P : zP d) (j86 : zK d) (hj86 : zSimJ 1 X_X2_takeCharacter (n1 + 3) P 86 j86) : zSim X_X2_takeCharacter (n1 + 3) P 61 (bX2_takeCharactert_61 f1 P j86) := by
  unfold bX2_takeCharactert_61
  refine sm_aloadV_n (pc := 61) (n := 0) dX2_takeCharacter_61 rfl ?_
  refine gf_X2_53 (pc := 62) rfl dX2_takeCharacter_62 ?_
  refine sm_iload_n (pc := 65) (n := 3) dX2_takeCharacter_65 rfl ?_
  refine sm_cV (pc := 66) (ci := 5) (n := 2) (mc := 0) (ms := 0) rfl (zMet_str m_X5_isRegulart) (cr_X2_169 (X := X_X2_takeCharacter) (fr := n1 + 3) (frc := 1) (pc := 66) (mc := 0) (ms := 0) rfl (by omega) dX2_takeCharacter_66) ?_
  refine sm_ifS_ne (pc := 69) (tgt := 86) dX2_takeCharacter_69 (by decide) ?_ ?_
  · skip
    exact hj86.use
  · skip
    refine sm_aloadV_n (pc := 72) (n := 0) dX2_takeCharacter_72 rfl ?_
    refine sm_iconst (pc := 73) dX2_takeCharacter_73 zc_i_3 ?_
    refine sm_aloadV_n (pc := 74) (n := 0) dX2_takeCharacter_74 rfl ?_
    refine gf_X2_36 (pc := 75) rfl dX2_takeCharacter_75 ?_
    refine sm_iload_n (pc := 78) (n := 1) dX2_takeCharacter_78 rfl ?_
    refine sm_ialoadQ (pc := 79) dX2_takeCharacter_79 ?_
    refine sm_iload_n (pc := 80) (n := 1) dX2_takeCharacter_80 rfl ?_
    refine sm_iconst (pc := 81) dX2_takeCharacter_81 zc_i_0 ?_
    refine sm_cV (pc := 82) (ci := 2) (n := 5) (mc := 0) (ms := 0) rfl (zMet_str m_X2_failt) (cr_X2_115 (X := X_X2_takeCharacter) (fr := n1 + 3) (frc := 2) (pc := 82) (mc := 0) (ms := 0) rfl (by omega) dX2_takeCharacter_82) ?_
    exact sm_zreturn (pc := 85) dX2_takeCharacter_85 rfl
noncomputable def bX2_takeCharactert_31 {d : Nat} (f1 : List zV → zH d → zP d → Bool) (P : zP d) : zK d := (xist 3 (xild 3 (xpI 4294967295 (xcmpS teqR rlEq rhEq rlNe rhNe (xaldV 0 (xpI 2 (xaldV 0 (xgfI 18 9 (xild 1 (xpI 0 (xcV 18 5 0 0 (zstr f_X2_failt) (xzret P)))))))) (xcutE 3 11 (xild 2 (xpI 68 (xjoin (bX2_takeCharactert_86 f1 P) (fun j86 => (xjoin (bX2_takeCharactert_61 f1 P j86) (fun j61 => (xcmpS teqR rlEq rhEq rlNe rhNe j61 (xild 2 (xpI 80 (xcmpS teqR rlEq rhEq rlNe rhNe j61 j86)))))))))))))))
set_option maxRecDepth 100000 in
set_option maxHeartbeats 4000000 in
theorem sbX2_takeCharactert_31 {d : Nat} [zGh] (n1 : Nat) (f1 : List zV → zH d → zP d → Bool) (hf1 : zMet X_X7_numberOf yX7_numberOf n1 f1) (P : zP d) : zSim X_X2_takeCharacter (n1 + 3) P 31 (bX2_takeCharactert_31 f1 P) := by
  unfold bX2_takeCharactert_31
  refine sm_istore_n (pc := 31) (n := 3) dX2_takeCharacter_31 rfl ?_
  refine sm_iload_n (pc := 32) (n := 3) dX2_takeCharacter_32 rfl ?_
  refine sm_iconst (pc := 33) dX2_takeCharacter_33 zc_i_m1 ?_
  refine sm_icmpS_ne (pc := 34) (tgt := 49) dX2_takeCharacter_34 (by decide) ?_ ?_
  · skip
    refine sm_cutE (i := 3) (m0 := 11) ?_
    refine sm_iload_n (pc := 49) (n := 2) dX2_takeCharacter_49 rfl ?_
    refine sm_bipush (pc := 50) dX2_takeCharacter_50 zc_b_68 ?_
    refine sm_joinJ (pc := 52) (pc' := 86) (j := 1) (fun G0 hG0 => @sbX2_takeCharactert_86 d G0 n1 f1 hf1 P) (fun j86 hj86 => ?_)
    refine sm_joinJ (pc := 52) (pc' := 61) (j := 1) (fun G0 hG0 => @sbX2_takeCharactert_61 d G0 n1 f1 hf1 P j86 (hj86.mv hG0 (by decide))) (fun j61 hj61 => ?_)
    refine sm_icmpS_eq (pc := 52) (tgt := 61) dX2_takeCharacter_52 (by decide) ?_ ?_
    · skip
      exact hj61.use
    · skip
      refine sm_iload_n (pc := 55) (n := 2) dX2_takeCharacter_55 rfl ?_
      refine sm_bipush (pc := 56) dX2_takeCharacter_56 zc_b_80 ?_
      refine sm_icmpS_ne (pc := 58) (tgt := 86) dX2_takeCharacter_58 (by decide) ?_ ?_
      · skip
        exact hj86.use
      · skip
        exact hj61.use
  · skip
    refine sm_aloadV_n (pc := 37) (n := 0) dX2_takeCharacter_37 rfl ?_
    refine sm_iconst (pc := 38) dX2_takeCharacter_38 zc_i_2 ?_
    refine sm_aloadV_n (pc := 39) (n := 0) dX2_takeCharacter_39 rfl ?_
    refine gf_X2_159 (pc := 40) rfl dX2_takeCharacter_40 ?_
    refine sm_iload_n (pc := 43) (n := 1) dX2_takeCharacter_43 rfl ?_
    refine sm_iconst (pc := 44) dX2_takeCharacter_44 zc_i_0 ?_
    refine sm_cV (pc := 45) (ci := 2) (n := 5) (mc := 0) (ms := 0) rfl (zMet_str m_X2_failt) (cr_X2_115 (X := X_X2_takeCharacter) (fr := n1 + 3) (frc := 2) (pc := 45) (mc := 0) (ms := 0) rfl (by omega) dX2_takeCharacter_45) ?_
    exact sm_zreturn (pc := 48) dX2_takeCharacter_48 rfl
noncomputable def b_X2_takeCharactert {d : Nat} (f1 : List zV → zH d → zP d → Bool) (P : zP d) : zK d := (xaldV 0 (xgfI 18 8 (xaldV 0 (xgfR 18 7 (xlen (xjoin (bX2_takeCharactert_31 f1 P) (fun j31 => (xcmpS tleR rlS rhLe rlGt rhS (xaldV 0 (xgfR 18 12 (xaldV 0 (xgfR 18 7 (xaldV 0 (xgfI 18 8 (xcV 23 3 0 0 (zstr f1) j31))))))) (xpI 4294967295 j31)))))))))
set_option maxRecDepth 100000 in
set_option maxHeartbeats 4000000 in
theorem s_X2_takeCharactert {d : Nat} [zGh] (n1 : Nat) (f1 : List zV → zH d → zP d → Bool) (hf1 : zMet X_X7_numberOf yX7_numberOf n1 f1) (P : zP d) : zSim X_X2_takeCharacter (n1 + 3) P 0 (b_X2_takeCharactert f1 P) := by
  unfold b_X2_takeCharactert
  refine sm_aloadV_n (pc := 0) (n := 0) dX2_takeCharacter_0 rfl ?_
  refine gf_X2_162 (pc := 1) rfl dX2_takeCharacter_1 ?_
  refine sm_aloadV_n (pc := 4) (n := 0) dX2_takeCharacter_4 rfl ?_
  refine gf_X2_39 (pc := 5) rfl dX2_takeCharacter_5 ?_
  refine sm_arraylength (pc := 8) dX2_takeCharacter_8 ?_
  refine sm_joinJ (pc := 9) (pc' := 31) (j := 1) (fun G0 hG0 => @sbX2_takeCharactert_31 d G0 n1 f1 hf1 P) (fun j31 hj31 => ?_)
  refine sm_icmpS_gt (pc := 9) (tgt := 30) dX2_takeCharacter_9 (by decide) ?_ ?_
  · skip
    refine sm_iconst (pc := 30) dX2_takeCharacter_30 zc_i_m1 ?_
    exact hj31.use
  · skip
    refine sm_aloadV_n (pc := 12) (n := 0) dX2_takeCharacter_12 rfl ?_
    refine gf_X2_49 (pc := 13) rfl dX2_takeCharacter_13 ?_
    refine sm_aloadV_n (pc := 16) (n := 0) dX2_takeCharacter_16 rfl ?_
    refine gf_X2_39 (pc := 17) rfl dX2_takeCharacter_17 ?_
    refine sm_aloadV_n (pc := 20) (n := 0) dX2_takeCharacter_20 rfl ?_
    refine gf_X2_162 (pc := 21) rfl dX2_takeCharacter_21 ?_
    refine sm_cV (pc := 24) (ci := 7) (n := 3) (mc := 0) (ms := 0) rfl (zMet_str hf1) (cr_X2_165 (X := X_X2_takeCharacter) (fr := n1 + 3) (frc := n1) (pc := 24) (mc := 0) (ms := 0) rfl (by omega) dX2_takeCharacter_24) ?_
    refine sm_goto (pc := 27) (tgt := 31) dX2_takeCharacter_27 (by decide) ?_
    exact hj31.use
noncomputable def f_X2_takeCharactert {d : Nat} (f1 : List zV → zH d → zP d → Bool) : List zV → zH d → zP d → Bool := zfn 4 (b_X2_takeCharactert f1 )
theorem m_X2_takeCharactert {d : Nat} (n1 : Nat) (f1 : List zV → zH d → zP d → Bool) (hf1 : zMet X_X7_numberOf yX7_numberOf n1 f1) : zMet (d := d) X_X2_takeCharacter yX2_takeCharacter (n1 + 3) (f_X2_takeCharactert f1 ) := zmet_mk (X := X_X2_takeCharacter) (by decide) rfl rfl (fun P => s_X2_takeCharactert n1 f1 hf1 P)

noncomputable def cX2_readInBracketst_64 {d : Nat} (f1 : List zV → zH d → zP d → Bool) (P : zP d) : zK d := (xpI 1 (xbin zaddR (xpfI 18 14 (xaldV 0 (xgfR 18 1 (xild 1 (xpI 1 (xbin zaddR (xaaT (xpI 0 (xaldV 0 (xgfR 18 3 (xild 1 (xaaT (xpI 0 (xaldV 0 (xgfR 18 12 (xgfI 23 1 (xcpy 2 72 (xpI 1 (xzret P)))))))))))))))))))))
set_option maxRecDepth 100000 in
set_option maxHeartbeats 4000000 in
theorem scX2_readInBracketst_64 {d : Nat} [zGh] (n1 : Nat) (f1 : List zV → zH d → zP d → Bool) (hf1 : zMet X_X2_readSum yX2_readSum n1 f1) (P : zP d) : zSim X_X2_readInBrackets (n1 + 3) P 64 (cX2_readInBracketst_64 f1 P) := by
  unfold cX2_readInBracketst_64
  refine sm_iconst (pc := 64) dX2_readInBrackets_64 zc_i_1 ?_
  refine sm_iaddR (pc := 65) dX2_readInBrackets_65 ?_
  refine pf_X2_60 (pc := 66) rfl dX2_readInBrackets_66 ?_
  refine sm_aloadV_n (pc := 69) (n := 0) dX2_readInBrackets_69 rfl ?_
  refine gf_X2_20 (pc := 70) rfl dX2_readInBrackets_70 ?_
  refine sm_iload_n (pc := 73) (n := 1) dX2_readInBrackets_73 rfl ?_
  refine sm_iconst (pc := 74) dX2_readInBrackets_74 zc_i_1 ?_
  refine sm_iaddR (pc := 75) dX2_readInBrackets_75 ?_
  refine sm_aaloadT (pc := 76) dX2_readInBrackets_76 ?_
  refine sm_iconst (pc := 77) dX2_readInBrackets_77 zc_i_0 ?_
  refine sm_aloadV_n (pc := 78) (n := 0) dX2_readInBrackets_78 rfl ?_
  refine gf_X2_26 (pc := 79) rfl dX2_readInBrackets_79 ?_
  refine sm_iload_n (pc := 82) (n := 1) dX2_readInBrackets_82 rfl ?_
  refine sm_aaloadT (pc := 83) dX2_readInBrackets_83 ?_
  refine sm_iconst (pc := 84) dX2_readInBrackets_84 zc_i_0 ?_
  refine sm_aloadV_n (pc := 85) (n := 0) dX2_readInBrackets_85 rfl ?_
  refine gf_X2_49 (pc := 86) rfl dX2_readInBrackets_86 ?_
  refine gf_X2_100 (pc := 89) rfl dX2_readInBrackets_89 ?_
  refine sm_copyJ (pc := 92) wd_753 wd_80 wd_79 wd_7 (by omega) dX2_readInBrackets_92 ?_
  refine sm_iconst (pc := 95) dX2_readInBrackets_95 zc_i_1 ?_
  exact sm_zreturn (pc := 96) dX2_readInBrackets_96 rfl
noncomputable def cX2_readInBracketst_55 {d : Nat} (f1 : List zV → zH d → zP d → Bool) (P : zP d) : zK d := (xcV 18 2 0 0 (zstr f_X2_refuset) (xzret P))
set_option maxRecDepth 100000 in
set_option maxHeartbeats 4000000 in
theorem scX2_readInBracketst_55 {d : Nat} [zGh] (n1 : Nat) (f1 : List zV → zH d → zP d → Bool) (hf1 : zMet X_X2_readSum yX2_readSum n1 f1) (P : zP d) : zSim X_X2_readInBrackets (n1 + 3) P 55 (cX2_readInBracketst_55 f1 P) := by
  unfold cX2_readInBracketst_55
  refine sm_cV (pc := 55) (ci := 2) (n := 2) (mc := 0) (ms := 0) rfl (zMet_str m_X2_refuset) (cr_X2_78 (X := X_X2_readInBrackets) (fr := n1 + 3) (frc := 2) (pc := 55) (mc := 0) (ms := 0) rfl (by omega) dX2_readInBrackets_55) ?_
  exact sm_zreturn (pc := 58) dX2_readInBrackets_58 rfl
noncomputable def b_X2_readInBracketst {d : Nat} (f1 : List zV → zH d → zP d → Bool) (P : zP d) : zK d := (xild 1 (xpI 1 (xbin zaddR (xpI 5 (xcmpS tgeR rlGe rhS rlS rhLt (xaldV 0 (xpI 5 (xaldV 0 (xgfI 18 14 (xild 1 (xpI 0 (xcV 18 5 0 0 (zstr f_X2_failt) (xzret P)))))))) (xaldV 0 (xdup (xgfI 18 14 (xpI 1 (xbin zaddR (xpfI 18 14 (xaldV 0 (xild 1 (xpI 1 (xbin zaddR (xcV 18 2 0 0 (zstr f1) (xif0S teqR rlEq rhEq rlNe rhNe (xpI 0 (xzret P)) (xaldV 0 (xcV 18 1 0 0 (zstr (zenT 18 14 g_X2_next)) (xpI 41 (xcmpS teqR rlEq rhEq rlNe rhNe (xaldV 0 (xdup (xgfI 18 14 (cX2_readInBracketst_64 f1 P)))) (xaldV 0 (xaldV 0 (xgfI 18 14 (cX2_readInBracketst_55 f1 P)))))))))))))))))))))))))
set_option maxRecDepth 100000 in
set_option maxHeartbeats 4000000 in
theorem s_X2_readInBracketst {d : Nat} [zGh] (n1 : Nat) (f1 : List zV → zH d → zP d → Bool) (hf1 : zMet X_X2_readSum yX2_readSum n1 f1) (P : zP d) : zSim X_X2_readInBrackets (n1 + 3) P 0 (b_X2_readInBracketst f1 P) := by
  unfold b_X2_readInBracketst
  refine sm_iload_n (pc := 0) (n := 1) dX2_readInBrackets_0 rfl ?_
  refine sm_iconst (pc := 1) dX2_readInBrackets_1 zc_i_1 ?_
  refine sm_iaddR (pc := 2) dX2_readInBrackets_2 ?_
  refine sm_iconst (pc := 3) dX2_readInBrackets_3 zc_i_5 ?_
  refine sm_icmpS_lt (pc := 4) (tgt := 19) dX2_readInBrackets_4 (by decide) ?_ ?_
  · skip
    refine sm_aloadV_n (pc := 19) (n := 0) dX2_readInBrackets_19 rfl ?_
    refine sm_dup (pc := 20) dX2_readInBrackets_20 ?_
    refine gf_X2_60 (pc := 21) rfl dX2_readInBrackets_21 ?_
    refine sm_iconst (pc := 24) dX2_readInBrackets_24 zc_i_1 ?_
    refine sm_iaddR (pc := 25) dX2_readInBrackets_25 ?_
    refine pf_X2_60 (pc := 26) rfl dX2_readInBrackets_26 ?_
    refine sm_aloadV_n (pc := 29) (n := 0) dX2_readInBrackets_29 rfl ?_
    refine sm_iload_n (pc := 30) (n := 1) dX2_readInBrackets_30 rfl ?_
    refine sm_iconst (pc := 31) dX2_readInBrackets_31 zc_i_1 ?_
    refine sm_iaddR (pc := 32) dX2_readInBrackets_32 ?_
    refine sm_cV (pc := 33) (ci := 2) (n := 2) (mc := 0) (ms := 0) rfl (zMet_str hf1) (cr_X2_70 (X := X_X2_readInBrackets) (fr := n1 + 3) (frc := n1) (pc := 33) (mc := 0) (ms := 0) rfl (by omega) dX2_readInBrackets_33) ?_
    refine sm_ifS_ne (pc := 36) (tgt := 41) dX2_readInBrackets_36 (by decide) ?_ ?_
    · skip
      refine sm_aloadV_n (pc := 41) (n := 0) dX2_readInBrackets_41 rfl ?_
      refine sm_cV (pc := 42) (ci := 2) (n := 1) (mc := 0) (ms := 0) rfl (zMet_str (zMet_en (ci := 2) rfl rfl (by decide) mg_X2_next)) (cr_X2_74 (X := X_X2_readInBrackets) (fr := n1 + 3) (frc := 1) (pc := 42) (mc := 0) (ms := 0) rfl (by omega) dX2_readInBrackets_42) ?_
      refine sm_bipush (pc := 45) dX2_readInBrackets_45 zc_b_41 ?_
      refine sm_icmpS_eq (pc := 47) (tgt := 59) dX2_readInBrackets_47 (by decide) ?_ ?_
      · skip
        refine sm_aloadV_n (pc := 59) (n := 0) dX2_readInBrackets_59 rfl ?_
        refine sm_dup (pc := 60) dX2_readInBrackets_60 ?_
        refine gf_X2_60 (pc := 61) rfl dX2_readInBrackets_61 ?_
        exact scX2_readInBracketst_64 n1 f1 hf1 P
      · skip
        refine sm_aloadV_n (pc := 50) (n := 0) dX2_readInBrackets_50 rfl ?_
        refine sm_aloadV_n (pc := 51) (n := 0) dX2_readInBrackets_51 rfl ?_
        refine gf_X2_60 (pc := 52) rfl dX2_readInBrackets_52 ?_
        exact scX2_readInBracketst_55 n1 f1 hf1 P
    · skip
      refine sm_iconst (pc := 39) dX2_readInBrackets_39 zc_i_0 ?_
      exact sm_zreturn (pc := 40) dX2_readInBrackets_40 rfl
  · skip
    refine sm_aloadV_n (pc := 7) (n := 0) dX2_readInBrackets_7 rfl ?_
    refine sm_iconst (pc := 8) dX2_readInBrackets_8 zc_i_5 ?_
    refine sm_aloadV_n (pc := 9) (n := 0) dX2_readInBrackets_9 rfl ?_
    refine gf_X2_60 (pc := 10) rfl dX2_readInBrackets_10 ?_
    refine sm_iload_n (pc := 13) (n := 1) dX2_readInBrackets_13 rfl ?_
    refine sm_iconst (pc := 14) dX2_readInBrackets_14 zc_i_0 ?_
    refine sm_cV (pc := 15) (ci := 2) (n := 5) (mc := 0) (ms := 0) rfl (zMet_str m_X2_failt) (cr_X2_115 (X := X_X2_readInBrackets) (fr := n1 + 3) (frc := 2) (pc := 15) (mc := 0) (ms := 0) rfl (by omega) dX2_readInBrackets_15) ?_
    exact sm_zreturn (pc := 18) dX2_readInBrackets_18 rfl
noncomputable def f_X2_readInBracketst {d : Nat} (f1 : List zV → zH d → zP d → Bool) : List zV → zH d → zP d → Bool := zfn 2 (b_X2_readInBracketst f1 )
theorem m_X2_readInBracketst {d : Nat} (n1 : Nat) (f1 : List zV → zH d → zP d → Bool) (hf1 : zMet X_X2_readSum yX2_readSum n1 f1) : zMet (d := d) X_X2_readInBrackets yX2_readInBrackets (n1 + 3) (f_X2_readInBracketst f1 ) := zmet_mk (X := X_X2_readInBrackets) (by decide) rfl rfl (fun P => s_X2_readInBracketst n1 f1 hf1 P)

noncomputable def bX2_readFactort_201 {d : Nat} (f1 : List zV → zH d → zP d → Bool) (f2 : List zV → zH d → zP d → Bool) (f3 : List zV → zH d → zP d → Bool) (P : zP d) : zK d := (xaldV 0 (xaldV 0 (xgfI 18 14 (xcV 18 2 0 0 (zstr f_X2_refuset) (xzret P)))))
set_option maxRecDepth 100000 in
set_option maxHeartbeats 4000000 in
theorem sbX2_readFactort_201 {d : Nat} [zGh] (n1 n2 n3 : Nat) (f1 : List zV → zH d → zP d → Bool) (f2 : List zV → zH d → zP d → Bool) (f3 : List zV → zH d → zP d → Bool) (hf1 : zMet X_X2_readInBrackets yX2_readInBrackets n1 f1) (hf2 : zMet X_X2_readSlot yX2_readSlot n2 f2) (hf3 : zMet X_X2_takeCharacter yX2_takeCharacter n3 f3) (P : zP d) : zSim X_X2_readFactor (n1 + n2 + n3 + 4) P 201 (bX2_readFactort_201 f1 f2 f3 P) := by
  unfold bX2_readFactort_201
  refine sm_aloadV_n (pc := 201) (n := 0) dX2_readFactor_201 rfl ?_
  refine sm_aloadV_n (pc := 202) (n := 0) dX2_readFactor_202 rfl ?_
  refine gf_X2_60 (pc := 203) rfl dX2_readFactor_203 ?_
  refine sm_cV (pc := 206) (ci := 2) (n := 2) (mc := 0) (ms := 0) rfl (zMet_str m_X2_refuset) (cr_X2_78 (X := X_X2_readFactor) (fr := n1 + n2 + n3 + 4) (frc := 2) (pc := 206) (mc := 0) (ms := 0) rfl (by omega) dX2_readFactor_206) ?_
  exact sm_zreturn (pc := 209) dX2_readFactor_209 rfl
noncomputable def bX2_readFactort_195 {d : Nat} (f1 : List zV → zH d → zP d → Bool) (f2 : List zV → zH d → zP d → Bool) (f3 : List zV → zH d → zP d → Bool) (P : zP d) : zK d := (xaldV 0 (xild 1 (xcV 18 2 0 0 (zstr f1) (xzret P))))
set_option maxRecDepth 100000 in
set_option maxHeartbeats 4000000 in
theorem sbX2_readFactort_195 {d : Nat} [zGh] (n1 n2 n3 : Nat) (f1 : List zV → zH d → zP d → Bool) (f2 : List zV → zH d → zP d → Bool) (f3 : List zV → zH d → zP d → Bool) (hf1 : zMet X_X2_readInBrackets yX2_readInBrackets n1 f1) (hf2 : zMet X_X2_readSlot yX2_readSlot n2 f2) (hf3 : zMet X_X2_takeCharacter yX2_takeCharacter n3 f3) (P : zP d) : zSim X_X2_readFactor (n1 + n2 + n3 + 4) P 195 (bX2_readFactort_195 f1 f2 f3 P) := by
  unfold bX2_readFactort_195
  refine sm_aloadV_n (pc := 195) (n := 0) dX2_readFactor_195 rfl ?_
  refine sm_iload_n (pc := 196) (n := 1) dX2_readFactor_196 rfl ?_
  refine sm_cV (pc := 197) (ci := 2) (n := 2) (mc := 0) (ms := 0) rfl (zMet_str hf1) (cr_X2_150 (X := X_X2_readFactor) (fr := n1 + n2 + n3 + 4) (frc := n1) (pc := 197) (mc := 0) (ms := 0) rfl (by omega) dX2_readFactor_197) ?_
  exact sm_zreturn (pc := 200) dX2_readFactor_200 rfl
noncomputable def bX2_readFactort_149 {d : Nat} (f1 : List zV → zH d → zP d → Bool) (f2 : List zV → zH d → zP d → Bool) (f3 : List zV → zH d → zP d → Bool) (P : zP d) : zK d := (xzret P)
set_option maxRecDepth 100000 in
set_option maxHeartbeats 4000000 in
theorem sbX2_readFactort_149 {d : Nat} [zGh] (n1 n2 n3 : Nat) (f1 : List zV → zH d → zP d → Bool) (f2 : List zV → zH d → zP d → Bool) (f3 : List zV → zH d → zP d → Bool) (hf1 : zMet X_X2_readInBrackets yX2_readInBrackets n1 f1) (hf2 : zMet X_X2_readSlot yX2_readSlot n2 f2) (hf3 : zMet X_X2_takeCharacter yX2_takeCharacter n3 f3) (P : zP d) : zSim X_X2_readFactor (n1 + n2 + n3 + 4) P 149 (bX2_readFactort_149 f1 f2 f3 P) := by
  unfold bX2_readFactort_149
  exact sm_zreturn (pc := 149) dX2_readFactor_149 rfl
noncomputable def bX2_readFactort_148 {d : Nat} (f1 : List zV → zH d → zP d → Bool) (f2 : List zV → zH d → zP d → Bool) (f3 : List zV → zH d → zP d → Bool) (P : zP d) (j149 : zK d) : zK d := (xpI 0 j149)
set_option maxRecDepth 100000 in
set_option maxHeartbeats 4000000 in
theorem sbX2_readFactort_148 {d : Nat} [zGh] (n1 n2 n3 : Nat) (f1 : List zV → zH d → zP d → Bool) (f2 : List zV → zH d → zP d → Bool) (f3 : List zV → zH d → zP d → Bool) (hf1 : zMet X_X2_readInBrackets yX2_readInBrackets n1 f1) (hf2 : zMet X_X2_readSlot yX2_readSlot n2 f2) (hf3 : zMet X_X2_takeCharacter yX2_takeCharacter n3 f3) (P : zP d) (j149 : zK d) (hj149 : zSimJ 1 X_X2_readFactor (n1 + n2 + n3 + 4) P 149 j149) : zSim X_X2_readFactor (n1 + n2 + n3 + 4) P 148 (bX2_readFactort_148 f1 f2 f3 P j149) := by
  unfold bX2_readFactort_148
  refine sm_iconst (pc := 148) dX2_readFactor_148 zc_i_0 ?_
  exact hj149.use
noncomputable def bX2_readFactort_118 {d : Nat} (f1 : List zV → zH d → zP d → Bool) (f2 : List zV → zH d → zP d → Bool) (f3 : List zV → zH d → zP d → Bool) (P : zP d) : zK d := (xaldV 0 (xdup (xgfI 18 14 (xpI 1 (xbin zaddR (xpfI 18 14 (xaldV 0 (xcV 18 1 0 0 (zstr g_X2_readList) (xjoin (bX2_readFactort_149 f1 f2 f3 P) (fun j149 => (xjoin (bX2_readFactort_148 f1 f2 f3 P j149) (fun j148 => (xif0S teqR rlEq rhEq rlNe rhNe j148 (xaldV 0 (xild 1 (xild 2 (xcV 18 3 0 0 (zstr f3) (xif0S teqR rlEq rhEq rlNe rhNe j148 (xpI 1 j149)))))))))))))))))))
set_option maxRecDepth 100000 in
set_option maxHeartbeats 4000000 in
theorem sbX2_readFactort_118 {d : Nat} [zGh] (n1 n2 n3 : Nat) (f1 : List zV → zH d → zP d → Bool) (f2 : List zV → zH d → zP d → Bool) (f3 : List zV → zH d → zP d → Bool) (hf1 : zMet X_X2_readInBrackets yX2_readInBrackets n1 f1) (hf2 : zMet X_X2_readSlot yX2_readSlot n2 f2) (hf3 : zMet X_X2_takeCharacter yX2_takeCharacter n3 f3) (P : zP d) : zSim X_X2_readFactor (n1 + n2 + n3 + 4) P 118 (bX2_readFactort_118 f1 f2 f3 P) := by
  unfold bX2_readFactort_118
  refine sm_aloadV_n (pc := 118) (n := 0) dX2_readFactor_118 rfl ?_
  refine sm_dup (pc := 119) dX2_readFactor_119 ?_
  refine gf_X2_60 (pc := 120) rfl dX2_readFactor_120 ?_
  refine sm_iconst (pc := 123) dX2_readFactor_123 zc_i_1 ?_
  refine sm_iaddR (pc := 124) dX2_readFactor_124 ?_
  refine pf_X2_60 (pc := 125) rfl dX2_readFactor_125 ?_
  refine sm_aloadV_n (pc := 128) (n := 0) dX2_readFactor_128 rfl ?_
  refine sm_cV (pc := 129) (ci := 2) (n := 1) (mc := 0) (ms := 0) rfl (zMet_str mg_X2_readList) (cr_X2_132 (X := X_X2_readFactor) (fr := n1 + n2 + n3 + 4) (frc := 3) (pc := 129) (mc := 0) (ms := 0) rfl (by omega) dX2_readFactor_129) ?_
  refine sm_joinJ (pc := 132) (pc' := 149) (j := 1) (fun G0 hG0 => @sbX2_readFactort_149 d G0 n1 n2 n3 f1 f2 f3 hf1 hf2 hf3 P) (fun j149 hj149 => ?_)
  refine sm_joinJ (pc := 132) (pc' := 148) (j := 1) (fun G0 hG0 => @sbX2_readFactort_148 d G0 n1 n2 n3 f1 f2 f3 hf1 hf2 hf3 P j149 (hj149.mv hG0 (by decide))) (fun j148 hj148 => ?_)
  refine sm_ifS_eq (pc := 132) (tgt := 148) dX2_readFactor_132 (by decide) ?_ ?_
  · skip
    exact hj148.use
  · skip
    refine sm_aloadV_n (pc := 135) (n := 0) dX2_readFactor_135 rfl ?_
    refine sm_iload_n (pc := 136) (n := 1) dX2_readFactor_136 rfl ?_
    refine sm_iload_n (pc := 137) (n := 2) dX2_readFactor_137 rfl ?_
    refine sm_cV (pc := 138) (ci := 2) (n := 3) (mc := 0) (ms := 0) rfl (zMet_str hf3) (cr_X2_136 (X := X_X2_readFactor) (fr := n1 + n2 + n3 + 4) (frc := n3) (pc := 138) (mc := 0) (ms := 0) rfl (by omega) dX2_readFactor_138) ?_
    refine sm_ifS_eq (pc := 141) (tgt := 148) dX2_readFactor_141 (by decide) ?_ ?_
    · skip
      exact hj148.use
    · skip
      refine sm_iconst (pc := 144) dX2_readFactor_144 zc_i_1 ?_
      refine sm_goto (pc := 145) (tgt := 149) dX2_readFactor_145 (by decide) ?_
      exact hj149.use
noncomputable def bX2_readFactort_149_2 {d : Nat} (f1 : List zV → zH d → zP d → Bool) (f2 : List zV → zH d → zP d → Bool) (f3 : List zV → zH d → zP d → Bool) (P : zP d) : zK d := (xzret P)
set_option maxRecDepth 100000 in
set_option maxHeartbeats 4000000 in
theorem sbX2_readFactort_149_2 {d : Nat} [zGh] (n1 n2 n3 : Nat) (f1 : List zV → zH d → zP d → Bool) (f2 : List zV → zH d → zP d → Bool) (f3 : List zV → zH d → zP d → Bool) (hf1 : zMet X_X2_readInBrackets yX2_readInBrackets n1 f1) (hf2 : zMet X_X2_readSlot yX2_readSlot n2 f2) (hf3 : zMet X_X2_takeCharacter yX2_takeCharacter n3 f3) (P : zP d) : zSim X_X2_readFactor (n1 + n2 + n3 + 4) P 149 (bX2_readFactort_149_2 f1 f2 f3 P) := by
  unfold bX2_readFactort_149_2
  exact sm_zreturn (pc := 149) dX2_readFactor_149 rfl
noncomputable def bX2_readFactort_148_2 {d : Nat} (f1 : List zV → zH d → zP d → Bool) (f2 : List zV → zH d → zP d → Bool) (f3 : List zV → zH d → zP d → Bool) (P : zP d) (j149 : zK d) : zK d := (xpI 0 j149)
set_option maxRecDepth 100000 in
set_option maxHeartbeats 4000000 in
theorem sbX2_readFactort_148_2 {d : Nat} [zGh] (n1 n2 n3 : Nat) (f1 : List zV → zH d → zP d → Bool) (f2 : List zV → zH d → zP d → Bool) (f3 : List zV → zH d → zP d → Bool) (hf1 : zMet X_X2_readInBrackets yX2_readInBrackets n1 f1) (hf2 : zMet X_X2_readSlot yX2_readSlot n2 f2) (hf3 : zMet X_X2_takeCharacter yX2_takeCharacter n3 f3) (P : zP d) (j149 : zK d) (hj149 : zSimJ 1 X_X2_readFactor (n1 + n2 + n3 + 4) P 149 j149) : zSim X_X2_readFactor (n1 + n2 + n3 + 4) P 148 (bX2_readFactort_148_2 f1 f2 f3 P j149) := by
  unfold bX2_readFactort_148_2
  refine sm_iconst (pc := 148) dX2_readFactor_148 zc_i_0 ?_
  exact hj149.use
noncomputable def bX2_readFactort_118_2 {d : Nat} (f1 : List zV → zH d → zP d → Bool) (f2 : List zV → zH d → zP d → Bool) (f3 : List zV → zH d → zP d → Bool) (P : zP d) : zK d := (xaldV 0 (xdup (xgfI 18 14 (xpI 1 (xbin zaddR (xpfI 18 14 (xaldV 0 (xcV 18 1 0 0 (zstr g_X2_readList) (xjoin (bX2_readFactort_149_2 f1 f2 f3 P) (fun j149 => (xjoin (bX2_readFactort_148_2 f1 f2 f3 P j149) (fun j148 => (xif0S teqR rlEq rhEq rlNe rhNe j148 (xaldV 0 (xild 1 (xild 2 (xcV 18 3 0 0 (zstr f3) (xif0S teqR rlEq rhEq rlNe rhNe j148 (xpI 1 j149)))))))))))))))))))
set_option maxRecDepth 100000 in
set_option maxHeartbeats 4000000 in
theorem sbX2_readFactort_118_2 {d : Nat} [zGh] (n1 n2 n3 : Nat) (f1 : List zV → zH d → zP d → Bool) (f2 : List zV → zH d → zP d → Bool) (f3 : List zV → zH d → zP d → Bool) (hf1 : zMet X_X2_readInBrackets yX2_readInBrackets n1 f1) (hf2 : zMet X_X2_readSlot yX2_readSlot n2 f2) (hf3 : zMet X_X2_takeCharacter yX2_takeCharacter n3 f3) (P : zP d) : zSim X_X2_readFactor (n1 + n2 + n3 + 4) P 118 (bX2_readFactort_118_2 f1 f2 f3 P) := by
  unfold bX2_readFactort_118_2
  refine sm_aloadV_n (pc := 118) (n := 0) dX2_readFactor_118 rfl ?_
  refine sm_dup (pc := 119) dX2_readFactor_119 ?_
  refine gf_X2_60 (pc := 120) rfl dX2_readFactor_120 ?_
  refine sm_iconst (pc := 123) dX2_readFactor_123 zc_i_1 ?_
  refine sm_iaddR (pc := 124) dX2_readFactor_124 ?_
  refine pf_X2_60 (pc := 125) rfl dX2_readFactor_125 ?_
  refine sm_aloadV_n (pc := 128) (n := 0) dX2_readFactor_128 rfl ?_
  refine sm_cV (pc := 129) (ci := 2) (n := 1) (mc := 0) (ms := 0) rfl (zMet_str mg_X2_readList) (cr_X2_132 (X := X_X2_readFactor) (fr := n1 + n2 + n3 + 4) (frc := 3) (pc := 129) (mc := 0) (ms := 0) rfl (by omega) dX2_readFactor_129) ?_
  refine sm_joinJ (pc := 132) (pc' := 149) (j := 1) (fun G0 hG0 => @sbX2_readFactort_149_2 d G0 n1 n2 n3 f1 f2 f3 hf1 hf2 hf3 P) (fun j149 hj149 => ?_)
  refine sm_joinJ (pc := 132) (pc' := 148) (j := 1) (fun G0 hG0 => @sbX2_readFactort_148_2 d G0 n1 n2 n3 f1 f2 f3 hf1 hf2 hf3 P j149 (hj149.mv hG0 (by decide))) (fun j148 hj148 => ?_)
  refine sm_ifS_eq (pc := 132) (tgt := 148) dX2_readFactor_132 (by decide) ?_ ?_
  · skip
    exact hj148.use
  · skip
    refine sm_aloadV_n (pc := 135) (n := 0) dX2_readFactor_135 rfl ?_
    refine sm_iload_n (pc := 136) (n := 1) dX2_readFactor_136 rfl ?_
    refine sm_iload_n (pc := 137) (n := 2) dX2_readFactor_137 rfl ?_
    refine sm_cV (pc := 138) (ci := 2) (n := 3) (mc := 0) (ms := 0) rfl (zMet_str hf3) (cr_X2_136 (X := X_X2_readFactor) (fr := n1 + n2 + n3 + 4) (frc := n3) (pc := 138) (mc := 0) (ms := 0) rfl (by omega) dX2_readFactor_138) ?_
    refine sm_ifS_eq (pc := 141) (tgt := 148) dX2_readFactor_141 (by decide) ?_ ?_
    · skip
      exact hj148.use
    · skip
      refine sm_iconst (pc := 144) dX2_readFactor_144 zc_i_1 ?_
      refine sm_goto (pc := 145) (tgt := 149) dX2_readFactor_145 (by decide) ?_
      exact hj149.use
noncomputable def bX2_readFactort_149_3 {d : Nat} (f1 : List zV → zH d → zP d → Bool) (f2 : List zV → zH d → zP d → Bool) (f3 : List zV → zH d → zP d → Bool) (P : zP d) : zK d := (xzret P)
set_option maxRecDepth 100000 in
set_option maxHeartbeats 4000000 in
theorem sbX2_readFactort_149_3 {d : Nat} [zGh] (n1 n2 n3 : Nat) (f1 : List zV → zH d → zP d → Bool) (f2 : List zV → zH d → zP d → Bool) (f3 : List zV → zH d → zP d → Bool) (hf1 : zMet X_X2_readInBrackets yX2_readInBrackets n1 f1) (hf2 : zMet X_X2_readSlot yX2_readSlot n2 f2) (hf3 : zMet X_X2_takeCharacter yX2_takeCharacter n3 f3) (P : zP d) : zSim X_X2_readFactor (n1 + n2 + n3 + 4) P 149 (bX2_readFactort_149_3 f1 f2 f3 P) := by
  unfold bX2_readFactort_149_3
  exact sm_zreturn (pc := 149) dX2_readFactor_149 rfl
noncomputable def bX2_readFactort_148_3 {d : Nat} (f1 : List zV → zH d → zP d → Bool) (f2 : List zV → zH d → zP d → Bool) (f3 : List zV → zH d → zP d → Bool) (P : zP d) (j149 : zK d) : zK d := (xpI 0 j149)
set_option maxRecDepth 100000 in
set_option maxHeartbeats 4000000 in
theorem sbX2_readFactort_148_3 {d : Nat} [zGh] (n1 n2 n3 : Nat) (f1 : List zV → zH d → zP d → Bool) (f2 : List zV → zH d → zP d → Bool) (f3 : List zV → zH d → zP d → Bool) (hf1 : zMet X_X2_readInBrackets yX2_readInBrackets n1 f1) (hf2 : zMet X_X2_readSlot yX2_readSlot n2 f2) (hf3 : zMet X_X2_takeCharacter yX2_takeCharacter n3 f3) (P : zP d) (j149 : zK d) (hj149 : zSimJ 1 X_X2_readFactor (n1 + n2 + n3 + 4) P 149 j149) : zSim X_X2_readFactor (n1 + n2 + n3 + 4) P 148 (bX2_readFactort_148_3 f1 f2 f3 P j149) := by
  unfold bX2_readFactort_148_3
  refine sm_iconst (pc := 148) dX2_readFactor_148 zc_i_0 ?_
  exact hj149.use
noncomputable def bX2_readFactort_118_3 {d : Nat} (f1 : List zV → zH d → zP d → Bool) (f2 : List zV → zH d → zP d → Bool) (f3 : List zV → zH d → zP d → Bool) (P : zP d) : zK d := (xaldV 0 (xdup (xgfI 18 14 (xpI 1 (xbin zaddR (xpfI 18 14 (xaldV 0 (xcV 18 1 0 0 (zstr g_X2_readList) (xjoin (bX2_readFactort_149_3 f1 f2 f3 P) (fun j149 => (xjoin (bX2_readFactort_148_3 f1 f2 f3 P j149) (fun j148 => (xif0S teqR rlEq rhEq rlNe rhNe j148 (xaldV 0 (xild 1 (xild 2 (xcV 18 3 0 0 (zstr f3) (xif0S teqR rlEq rhEq rlNe rhNe j148 (xpI 1 j149)))))))))))))))))))
set_option maxRecDepth 100000 in
set_option maxHeartbeats 4000000 in
theorem sbX2_readFactort_118_3 {d : Nat} [zGh] (n1 n2 n3 : Nat) (f1 : List zV → zH d → zP d → Bool) (f2 : List zV → zH d → zP d → Bool) (f3 : List zV → zH d → zP d → Bool) (hf1 : zMet X_X2_readInBrackets yX2_readInBrackets n1 f1) (hf2 : zMet X_X2_readSlot yX2_readSlot n2 f2) (hf3 : zMet X_X2_takeCharacter yX2_takeCharacter n3 f3) (P : zP d) : zSim X_X2_readFactor (n1 + n2 + n3 + 4) P 118 (bX2_readFactort_118_3 f1 f2 f3 P) := by
  unfold bX2_readFactort_118_3
  refine sm_aloadV_n (pc := 118) (n := 0) dX2_readFactor_118 rfl ?_
  refine sm_dup (pc := 119) dX2_readFactor_119 ?_
  refine gf_X2_60 (pc := 120) rfl dX2_readFactor_120 ?_
  refine sm_iconst (pc := 123) dX2_readFactor_123 zc_i_1 ?_
  refine sm_iaddR (pc := 124) dX2_readFactor_124 ?_
  refine pf_X2_60 (pc := 125) rfl dX2_readFactor_125 ?_
  refine sm_aloadV_n (pc := 128) (n := 0) dX2_readFactor_128 rfl ?_
  refine sm_cV (pc := 129) (ci := 2) (n := 1) (mc := 0) (ms := 0) rfl (zMet_str mg_X2_readList) (cr_X2_132 (X := X_X2_readFactor) (fr := n1 + n2 + n3 + 4) (frc := 3) (pc := 129) (mc := 0) (ms := 0) rfl (by omega) dX2_readFactor_129) ?_
  refine sm_joinJ (pc := 132) (pc' := 149) (j := 1) (fun G0 hG0 => @sbX2_readFactort_149_3 d G0 n1 n2 n3 f1 f2 f3 hf1 hf2 hf3 P) (fun j149 hj149 => ?_)
  refine sm_joinJ (pc := 132) (pc' := 148) (j := 1) (fun G0 hG0 => @sbX2_readFactort_148_3 d G0 n1 n2 n3 f1 f2 f3 hf1 hf2 hf3 P j149 (hj149.mv hG0 (by decide))) (fun j148 hj148 => ?_)
  refine sm_ifS_eq (pc := 132) (tgt := 148) dX2_readFactor_132 (by decide) ?_ ?_
  · skip
    exact hj148.use
  · skip
    refine sm_aloadV_n (pc := 135) (n := 0) dX2_readFactor_135 rfl ?_
    refine sm_iload_n (pc := 136) (n := 1) dX2_readFactor_136 rfl ?_
    refine sm_iload_n (pc := 137) (n := 2) dX2_readFactor_137 rfl ?_
    refine sm_cV (pc := 138) (ci := 2) (n := 3) (mc := 0) (ms := 0) rfl (zMet_str hf3) (cr_X2_136 (X := X_X2_readFactor) (fr := n1 + n2 + n3 + 4) (frc := n3) (pc := 138) (mc := 0) (ms := 0) rfl (by omega) dX2_readFactor_138) ?_
    refine sm_ifS_eq (pc := 141) (tgt := 148) dX2_readFactor_141 (by decide) ?_ ?_
    · skip
      exact hj148.use
    · skip
      refine sm_iconst (pc := 144) dX2_readFactor_144 zc_i_1 ?_
      refine sm_goto (pc := 145) (tgt := 149) dX2_readFactor_145 (by decide) ?_
      exact hj149.use
noncomputable def bX2_readFactort_150 {d : Nat} (f1 : List zV → zH d → zP d → Bool) (f2 : List zV → zH d → zP d → Bool) (f3 : List zV → zH d → zP d → Bool) (P : zP d) : zK d := (xaldV 0 (xdup (xgfI 18 14 (xpI 1 (xbin zaddR (xpfI 18 14 (xaldV 0 (xaldV 0 (xgfR 18 12 (xgfR 23 7 (xaldV 0 (xgfR 18 3 (xild 1 (xaaT (xcV 18 3 0 0 (zstr f_X2_copyt) (xpI 1 (xzret P)))))))))))))))))
set_option maxRecDepth 100000 in
set_option maxHeartbeats 4000000 in
theorem sbX2_readFactort_150 {d : Nat} [zGh] (n1 n2 n3 : Nat) (f1 : List zV → zH d → zP d → Bool) (f2 : List zV → zH d → zP d → Bool) (f3 : List zV → zH d → zP d → Bool) (hf1 : zMet X_X2_readInBrackets yX2_readInBrackets n1 f1) (hf2 : zMet X_X2_readSlot yX2_readSlot n2 f2) (hf3 : zMet X_X2_takeCharacter yX2_takeCharacter n3 f3) (P : zP d) : zSim X_X2_readFactor (n1 + n2 + n3 + 4) P 150 (bX2_readFactort_150 f1 f2 f3 P) := by
  unfold bX2_readFactort_150
  refine sm_aloadV_n (pc := 150) (n := 0) dX2_readFactor_150 rfl ?_
  refine sm_dup (pc := 151) dX2_readFactor_151 ?_
  refine gf_X2_60 (pc := 152) rfl dX2_readFactor_152 ?_
  refine sm_iconst (pc := 155) dX2_readFactor_155 zc_i_1 ?_
  refine sm_iaddR (pc := 156) dX2_readFactor_156 ?_
  refine pf_X2_60 (pc := 157) rfl dX2_readFactor_157 ?_
  refine sm_aloadV_n (pc := 160) (n := 0) dX2_readFactor_160 rfl ?_
  refine sm_aloadV_n (pc := 161) (n := 0) dX2_readFactor_161 rfl ?_
  refine gf_X2_49 (pc := 162) rfl dX2_readFactor_162 ?_
  refine gf_X2_140 (pc := 165) rfl dX2_readFactor_165 ?_
  refine sm_aloadV_n (pc := 168) (n := 0) dX2_readFactor_168 rfl ?_
  refine gf_X2_26 (pc := 169) rfl dX2_readFactor_169 ?_
  refine sm_iload_n (pc := 172) (n := 1) dX2_readFactor_172 rfl ?_
  refine sm_aaloadT (pc := 173) dX2_readFactor_173 ?_
  refine sm_cV (pc := 174) (ci := 2) (n := 3) (mc := 0) (ms := 0) rfl (zMet_str m_X2_copyt) (cr_X2_143 (X := X_X2_readFactor) (fr := n1 + n2 + n3 + 4) (frc := 1) (pc := 174) (mc := 0) (ms := 0) rfl (by omega) dX2_readFactor_174) ?_
  refine sm_iconst (pc := 177) dX2_readFactor_177 zc_i_1 ?_
  exact sm_zreturn (pc := 178) dX2_readFactor_178 rfl
noncomputable def bX2_readFactort_179 {d : Nat} (f1 : List zV → zH d → zP d → Bool) (f2 : List zV → zH d → zP d → Bool) (f3 : List zV → zH d → zP d → Bool) (P : zP d) : zK d := (xaldV 0 (xdup (xgfI 18 14 (xpI 1 (xbin zaddR (xpfI 18 14 (xaldV 0 (xild 1 (xcV 18 2 0 0 (zstr f2) (xzret P))))))))))
set_option maxRecDepth 100000 in
set_option maxHeartbeats 4000000 in
theorem sbX2_readFactort_179 {d : Nat} [zGh] (n1 n2 n3 : Nat) (f1 : List zV → zH d → zP d → Bool) (f2 : List zV → zH d → zP d → Bool) (f3 : List zV → zH d → zP d → Bool) (hf1 : zMet X_X2_readInBrackets yX2_readInBrackets n1 f1) (hf2 : zMet X_X2_readSlot yX2_readSlot n2 f2) (hf3 : zMet X_X2_takeCharacter yX2_takeCharacter n3 f3) (P : zP d) : zSim X_X2_readFactor (n1 + n2 + n3 + 4) P 179 (bX2_readFactort_179 f1 f2 f3 P) := by
  unfold bX2_readFactort_179
  refine sm_aloadV_n (pc := 179) (n := 0) dX2_readFactor_179 rfl ?_
  refine sm_dup (pc := 180) dX2_readFactor_180 ?_
  refine gf_X2_60 (pc := 181) rfl dX2_readFactor_181 ?_
  refine sm_iconst (pc := 184) dX2_readFactor_184 zc_i_1 ?_
  refine sm_iaddR (pc := 185) dX2_readFactor_185 ?_
  refine pf_X2_60 (pc := 186) rfl dX2_readFactor_186 ?_
  refine sm_aloadV_n (pc := 189) (n := 0) dX2_readFactor_189 rfl ?_
  refine sm_iload_n (pc := 190) (n := 1) dX2_readFactor_190 rfl ?_
  refine sm_cV (pc := 191) (ci := 2) (n := 2) (mc := 0) (ms := 0) rfl (zMet_str hf2) (cr_X2_147 (X := X_X2_readFactor) (fr := n1 + n2 + n3 + 4) (frc := n2) (pc := 191) (mc := 0) (ms := 0) rfl (by omega) dX2_readFactor_191) ?_
  exact sm_zreturn (pc := 194) dX2_readFactor_194 rfl
noncomputable def bX2_readFactort_117 {d : Nat} (f1 : List zV → zH d → zP d → Bool) (f2 : List zV → zH d → zP d → Bool) (f3 : List zV → zH d → zP d → Bool) (P : zP d) : zK d := (xzret P)
set_option maxRecDepth 100000 in
set_option maxHeartbeats 4000000 in
theorem sbX2_readFactort_117 {d : Nat} [zGh] (n1 n2 n3 : Nat) (f1 : List zV → zH d → zP d → Bool) (f2 : List zV → zH d → zP d → Bool) (f3 : List zV → zH d → zP d → Bool) (hf1 : zMet X_X2_readInBrackets yX2_readInBrackets n1 f1) (hf2 : zMet X_X2_readSlot yX2_readSlot n2 f2) (hf3 : zMet X_X2_takeCharacter yX2_takeCharacter n3 f3) (P : zP d) : zSim X_X2_readFactor (n1 + n2 + n3 + 4) P 117 (bX2_readFactort_117 f1 f2 f3 P) := by
  unfold bX2_readFactort_117
  exact sm_zreturn (pc := 117) dX2_readFactor_117 rfl
noncomputable def bX2_readFactort_116 {d : Nat} (f1 : List zV → zH d → zP d → Bool) (f2 : List zV → zH d → zP d → Bool) (f3 : List zV → zH d → zP d → Bool) (P : zP d) (j117 : zK d) : zK d := (xpI 0 j117)
set_option maxRecDepth 100000 in
set_option maxHeartbeats 4000000 in
theorem sbX2_readFactort_116 {d : Nat} [zGh] (n1 n2 n3 : Nat) (f1 : List zV → zH d → zP d → Bool) (f2 : List zV → zH d → zP d → Bool) (f3 : List zV → zH d → zP d → Bool) (hf1 : zMet X_X2_readInBrackets yX2_readInBrackets n1 f1) (hf2 : zMet X_X2_readSlot yX2_readSlot n2 f2) (hf3 : zMet X_X2_takeCharacter yX2_takeCharacter n3 f3) (P : zP d) (j117 : zK d) (hj117 : zSimJ 1 X_X2_readFactor (n1 + n2 + n3 + 4) P 117 j117) : zSim X_X2_readFactor (n1 + n2 + n3 + 4) P 116 (bX2_readFactort_116 f1 f2 f3 P j117) := by
  unfold bX2_readFactort_116
  refine sm_iconst (pc := 116) dX2_readFactor_116 zc_i_0 ?_
  exact hj117.use
noncomputable def bX2_readFactort_96 {d : Nat} (f1 : List zV → zH d → zP d → Bool) (f2 : List zV → zH d → zP d → Bool) (f3 : List zV → zH d → zP d → Bool) (P : zP d) : zK d := (xaldV 0 (xcV 18 1 0 0 (zstr g_X2_readList) (xjoin (bX2_readFactort_117 f1 f2 f3 P) (fun j117 => (xjoin (bX2_readFactort_116 f1 f2 f3 P j117) (fun j116 => (xif0S teqR rlEq rhEq rlNe rhNe j116 (xaldV 0 (xild 1 (xild 2 (xcV 18 3 0 0 (zstr f3) (xif0S teqR rlEq rhEq rlNe rhNe j116 (xpI 1 j117)))))))))))))
set_option maxRecDepth 100000 in
set_option maxHeartbeats 4000000 in
theorem sbX2_readFactort_96 {d : Nat} [zGh] (n1 n2 n3 : Nat) (f1 : List zV → zH d → zP d → Bool) (f2 : List zV → zH d → zP d → Bool) (f3 : List zV → zH d → zP d → Bool) (hf1 : zMet X_X2_readInBrackets yX2_readInBrackets n1 f1) (hf2 : zMet X_X2_readSlot yX2_readSlot n2 f2) (hf3 : zMet X_X2_takeCharacter yX2_takeCharacter n3 f3) (P : zP d) : zSim X_X2_readFactor (n1 + n2 + n3 + 4) P 96 (bX2_readFactort_96 f1 f2 f3 P) := by
  unfold bX2_readFactort_96
  refine sm_aloadV_n (pc := 96) (n := 0) dX2_readFactor_96 rfl ?_
  refine sm_cV (pc := 97) (ci := 2) (n := 1) (mc := 0) (ms := 0) rfl (zMet_str mg_X2_readList) (cr_X2_132 (X := X_X2_readFactor) (fr := n1 + n2 + n3 + 4) (frc := 3) (pc := 97) (mc := 0) (ms := 0) rfl (by omega) dX2_readFactor_97) ?_
  refine sm_joinJ (pc := 100) (pc' := 117) (j := 1) (fun G0 hG0 => @sbX2_readFactort_117 d G0 n1 n2 n3 f1 f2 f3 hf1 hf2 hf3 P) (fun j117 hj117 => ?_)
  refine sm_joinJ (pc := 100) (pc' := 116) (j := 1) (fun G0 hG0 => @sbX2_readFactort_116 d G0 n1 n2 n3 f1 f2 f3 hf1 hf2 hf3 P j117 (hj117.mv hG0 (by decide))) (fun j116 hj116 => ?_)
  refine sm_ifS_eq (pc := 100) (tgt := 116) dX2_readFactor_100 (by decide) ?_ ?_
  · skip
    exact hj116.use
  · skip
    refine sm_aloadV_n (pc := 103) (n := 0) dX2_readFactor_103 rfl ?_
    refine sm_iload_n (pc := 104) (n := 1) dX2_readFactor_104 rfl ?_
    refine sm_iload_n (pc := 105) (n := 2) dX2_readFactor_105 rfl ?_
    refine sm_cV (pc := 106) (ci := 2) (n := 3) (mc := 0) (ms := 0) rfl (zMet_str hf3) (cr_X2_136 (X := X_X2_readFactor) (fr := n1 + n2 + n3 + 4) (frc := n3) (pc := 106) (mc := 0) (ms := 0) rfl (by omega) dX2_readFactor_106) ?_
    refine sm_ifS_eq (pc := 109) (tgt := 116) dX2_readFactor_109 (by decide) ?_ ?_
    · skip
      exact hj116.use
    · skip
      refine sm_iconst (pc := 112) dX2_readFactor_112 zc_i_1 ?_
      refine sm_goto (pc := 113) (tgt := 117) dX2_readFactor_113 (by decide) ?_
      exact hj117.use
noncomputable def b_X2_readFactort {d : Nat} (f1 : List zV → zH d → zP d → Bool) (f2 : List zV → zH d → zP d → Bool) (f3 : List zV → zH d → zP d → Bool) (P : zP d) : zK d := (xaldV 0 (xcV 18 1 0 0 (zstr (zenT 18 14 g_X2_next)) (xist 2 (xaldV 0 (xgfR 18 6 (xild 1 (xaldV 0 (xgfI 18 14 (xasQ 0 (fun v => v) (xild 2 (xcS 1 0 0 (zstr f_X2_isDigitt) (xif0S teqR rlEq rhEq rlNe rhNe (xild 2 (xlswV [(40, (bX2_readFactort_195 f1 f2 f3 P)), (68, (bX2_readFactort_118 f1 f2 f3 P)), (77, (bX2_readFactort_118_2 f1 f2 f3 P)), (80, (bX2_readFactort_118_3 f1 f2 f3 P)), (83, (bX2_readFactort_150 f1 f2 f3 P)), (88, (bX2_readFactort_179 f1 f2 f3 P)), (91, (bX2_readFactort_96 f1 f2 f3 P))] (bX2_readFactort_201 f1 f2 f3 P))) (xaldV 0 (xild 1 (xcV 18 2 0 0 (zstr f_X2_readConstantt) (xzret P))))))))))))))))
set_option maxRecDepth 100000 in
set_option maxHeartbeats 4000000 in
theorem s_X2_readFactort {d : Nat} [zGh] (n1 n2 n3 : Nat) (f1 : List zV → zH d → zP d → Bool) (f2 : List zV → zH d → zP d → Bool) (f3 : List zV → zH d → zP d → Bool) (hf1 : zMet X_X2_readInBrackets yX2_readInBrackets n1 f1) (hf2 : zMet X_X2_readSlot yX2_readSlot n2 f2) (hf3 : zMet X_X2_takeCharacter yX2_takeCharacter n3 f3) (P : zP d) : zSim X_X2_readFactor (n1 + n2 + n3 + 4) P 0 (b_X2_readFactort f1 f2 f3 P) := by
  unfold b_X2_readFactort
  refine sm_aloadV_n (pc := 0) (n := 0) dX2_readFactor_0 rfl ?_
  refine sm_cV (pc := 1) (ci := 2) (n := 1) (mc := 0) (ms := 0) rfl (zMet_str (zMet_en (ci := 2) rfl rfl (by decide) mg_X2_next)) (cr_X2_74 (X := X_X2_readFactor) (fr := n1 + n2 + n3 + 4) (frc := 1) (pc := 1) (mc := 0) (ms := 0) rfl (by omega) dX2_readFactor_1) ?_
  refine sm_istore_n (pc := 4) (n := 2) dX2_readFactor_4 rfl ?_
  refine sm_aloadV_n (pc := 5) (n := 0) dX2_readFactor_5 rfl ?_
  refine gf_X2_36 (pc := 6) rfl dX2_readFactor_6 ?_
  refine sm_iload_n (pc := 9) (n := 1) dX2_readFactor_9 rfl ?_
  refine sm_aloadV_n (pc := 10) (n := 0) dX2_readFactor_10 rfl ?_
  refine gf_X2_60 (pc := 11) rfl dX2_readFactor_11 ?_
  refine sm_iastoreQ (pc := 14) dX2_readFactor_14 ?_
  refine sm_iload_n (pc := 15) (n := 2) dX2_readFactor_15 rfl ?_
  refine sm_cS (pc := 16) (n := 1) (mc := 0) (ms := 0) (zMet_str m_X2_isDigitt) (cr_X2_126 (X := X_X2_readFactor) (fr := n1 + n2 + n3 + 4) (frc := 1) (pc := 16) (mc := 0) (ms := 0) rfl (by omega) dX2_readFactor_16) ?_
  refine sm_ifS_eq (pc := 19) (tgt := 28) dX2_readFactor_19 (by decide) ?_ ?_
  · skip
    refine sm_iload_n (pc := 28) (n := 2) dX2_readFactor_28 rfl ?_
    refine sm_lswV (pc := 29) (tdf := 201) [(40, 195), (68, 118), (77, 118), (80, 118), (83, 150), (88, 179), (91, 96)] dX2_readFactor_29 (by decide +kernel) (by decide +kernel) rfl (by decide) (sbX2_readFactort_201 n1 n2 n3 f1 f2 f3 hf1 hf2 hf3 P) (fun i n t k ht hk => ?_)
    match i, ht, hk with
    | 0, ht, hk => cases ht; cases hk; exact sbX2_readFactort_195 n1 n2 n3 f1 f2 f3 hf1 hf2 hf3 P
    | 1, ht, hk => cases ht; cases hk; exact sbX2_readFactort_118 n1 n2 n3 f1 f2 f3 hf1 hf2 hf3 P
    | 2, ht, hk => cases ht; cases hk; exact sbX2_readFactort_118_2 n1 n2 n3 f1 f2 f3 hf1 hf2 hf3 P
    | 3, ht, hk => cases ht; cases hk; exact sbX2_readFactort_118_3 n1 n2 n3 f1 f2 f3 hf1 hf2 hf3 P
    | 4, ht, hk => cases ht; cases hk; exact sbX2_readFactort_150 n1 n2 n3 f1 f2 f3 hf1 hf2 hf3 P
    | 5, ht, hk => cases ht; cases hk; exact sbX2_readFactort_179 n1 n2 n3 f1 f2 f3 hf1 hf2 hf3 P
    | 6, ht, hk => cases ht; cases hk; exact sbX2_readFactort_96 n1 n2 n3 f1 f2 f3 hf1 hf2 hf3 P
    | i + 7, ht, hk => cases ht
  · skip
    refine sm_aloadV_n (pc := 22) (n := 0) dX2_readFactor_22 rfl ?_
    refine sm_iload_n (pc := 23) (n := 1) dX2_readFactor_23 rfl ?_
    refine sm_cV (pc := 24) (ci := 2) (n := 2) (mc := 0) (ms := 0) rfl (zMet_str m_X2_readConstantt) (cr_X2_129 (X := X_X2_readFactor) (fr := n1 + n2 + n3 + 4) (frc := 3) (pc := 24) (mc := 0) (ms := 0) rfl (by omega) dX2_readFactor_24) ?_
    exact sm_zreturn (pc := 27) dX2_readFactor_27 rfl
noncomputable def f_X2_readFactort {d : Nat} (f1 : List zV → zH d → zP d → Bool) (f2 : List zV → zH d → zP d → Bool) (f3 : List zV → zH d → zP d → Bool) : List zV → zH d → zP d → Bool := zfn 3 (b_X2_readFactort f1 f2 f3 )
theorem m_X2_readFactort {d : Nat} (n1 n2 n3 : Nat) (f1 : List zV → zH d → zP d → Bool) (f2 : List zV → zH d → zP d → Bool) (f3 : List zV → zH d → zP d → Bool) (hf1 : zMet X_X2_readInBrackets yX2_readInBrackets n1 f1) (hf2 : zMet X_X2_readSlot yX2_readSlot n2 f2) (hf3 : zMet X_X2_takeCharacter yX2_takeCharacter n3 f3) : zMet (d := d) X_X2_readFactor yX2_readFactor (n1 + n2 + n3 + 4) (f_X2_readFactort f1 f2 f3 ) := zmet_mk (X := X_X2_readFactor) (by decide) rfl rfl (fun P => s_X2_readFactort n1 n2 n3 f1 f2 f3 hf1 hf2 hf3 P)

noncomputable def cX2_readTermt_100 {d : Nat} (f1 : List zV → zH d → zP d → Bool) (f2 : List zV → zH d → zP d → Bool) (P : zP d) (r51 : zK d) : zK d := (xaaT (xaldV 0 (xgfR 18 2 (xild 1 (xaaT (xcV 18 3 0 0 (zstr f2) (xif0S teqR rlEq rhEq rlNe rhNe (xaldV 0 (xpI 6 (xild 3 (xild 1 (xpI 1 (xcV 18 5 0 0 (zstr f_X2_failt) (xzret P))))))) (xincR 2 1 r51))))))))
set_option maxRecDepth 100000 in
set_option maxHeartbeats 4000000 in
theorem scX2_readTermt_100 {d : Nat} [zGh] (n1 n2 : Nat) (f1 : List zV → zH d → zP d → Bool) (f2 : List zV → zH d → zP d → Bool) (hf1 : zMet X_X2_readFactor yX2_readFactor n1 f1) (hf2 : zMet X_X2_multiply yX2_multiply n2 f2) (P : zP d) (r51 : zK d) (hr51 : zSimJ 2 X_X2_readTerm (n1 + n2 + 3) P 51 r51) : zSim X_X2_readTerm (n1 + n2 + 3) P 100 (cX2_readTermt_100 f1 f2 P r51) := by
  unfold cX2_readTermt_100
  refine sm_aaloadT (pc := 100) dX2_readTerm_100 ?_
  refine sm_aloadV_n (pc := 101) (n := 0) dX2_readTerm_101 rfl ?_
  refine gf_X2_23 (pc := 102) rfl dX2_readTerm_102 ?_
  refine sm_iload_n (pc := 105) (n := 1) dX2_readTerm_105 rfl ?_
  refine sm_aaloadT (pc := 106) dX2_readTerm_106 ?_
  refine sm_cV (pc := 107) (ci := 2) (n := 3) (mc := 0) (ms := 0) rfl (zMet_str hf2) (cr_X2_122 (X := X_X2_readTerm) (fr := n1 + n2 + 3) (frc := n2) (pc := 107) (mc := 0) (ms := 0) rfl (by omega) dX2_readTerm_107) ?_
  refine sm_ifS_ne (pc := 110) (tgt := 123) dX2_readTerm_110 (by decide) ?_ ?_
  · skip
    refine sm_iincR (pc := 123) (n := 2) dX2_readTerm_123 zc_i_1 ?_
    refine sm_goto (pc := 126) (tgt := 51) dX2_readTerm_126 (by decide) ?_
    exact hr51.use
  · skip
    refine sm_aloadV_n (pc := 113) (n := 0) dX2_readTerm_113 rfl ?_
    refine sm_bipush (pc := 114) dX2_readTerm_114 zc_b_6 ?_
    refine sm_iload_n (pc := 116) (n := 3) dX2_readTerm_116 rfl ?_
    refine sm_iload_n (pc := 117) (n := 1) dX2_readTerm_117 rfl ?_
    refine sm_iconst (pc := 118) dX2_readTerm_118 zc_i_1 ?_
    refine sm_cV (pc := 119) (ci := 2) (n := 5) (mc := 0) (ms := 0) rfl (zMet_str m_X2_failt) (cr_X2_115 (X := X_X2_readTerm) (fr := n1 + n2 + 3) (frc := 2) (pc := 119) (mc := 0) (ms := 0) rfl (by omega) dX2_readTerm_119) ?_
    exact sm_zreturn (pc := 122) dX2_readTerm_122 rfl
noncomputable def lX2_readTermt_51 {d : Nat} (f1 : List zV → zH d → zP d → Bool) (f2 : List zV → zH d → zP d → Bool) (P : zP d) (r51 : zK d) : zK d := (xild 2 (xpI 200 (xcmpS tgeR rlGe rhS rlS rhLt (xpI 1 (xzret P)) (xaldV 0 (xcV 18 1 0 0 (zstr (zenT 18 14 g_X2_next)) (xpI 42 (xcmpS teqR rlEq rhEq rlNe rhNe (xaldV 0 (xgfI 18 14 (xist 3 (xaldV 0 (xdup (xgfI 18 14 (xpI 1 (xbin zaddR (xpfI 18 14 (xaldV 0 (xild 1 (xcV 18 2 0 0 (zstr f1) (xif0S teqR rlEq rhEq rlNe rhNe (xpI 0 (xzret P)) (xaldV 0 (xaldV 0 (xgfR 18 3 (xild 1 (cX2_readTermt_100 f1 f2 P r51)))))))))))))))))) (xpI 1 (xzret P)))))))))
set_option maxRecDepth 100000 in
set_option maxHeartbeats 4000000 in
theorem slX2_readTermt_51 {d : Nat} [zGh] (n1 n2 : Nat) (f1 : List zV → zH d → zP d → Bool) (f2 : List zV → zH d → zP d → Bool) (hf1 : zMet X_X2_readFactor yX2_readFactor n1 f1) (hf2 : zMet X_X2_multiply yX2_multiply n2 f2) (P : zP d) (r51 : zK d) (hr51 : zSimJ 2 X_X2_readTerm (n1 + n2 + 3) P 51 r51) : zSim X_X2_readTerm (n1 + n2 + 3) P 51 (lX2_readTermt_51 f1 f2 P r51) := by
  unfold lX2_readTermt_51
  refine sm_iload_n (pc := 51) (n := 2) dX2_readTerm_51 rfl ?_
  refine sm_sipush (pc := 52) dX2_readTerm_52 zc_s_200 ?_
  refine sm_icmpS_ge (pc := 55) (tgt := 129) dX2_readTerm_55 (by decide) ?_ ?_
  · skip
    refine sm_iconst (pc := 129) dX2_readTerm_129 zc_i_1 ?_
    exact sm_zreturn (pc := 130) dX2_readTerm_130 rfl
  · skip
    refine sm_aloadV_n (pc := 58) (n := 0) dX2_readTerm_58 rfl ?_
    refine sm_cV (pc := 59) (ci := 2) (n := 1) (mc := 0) (ms := 0) rfl (zMet_str (zMet_en (ci := 2) rfl rfl (by decide) mg_X2_next)) (cr_X2_74 (X := X_X2_readTerm) (fr := n1 + n2 + 3) (frc := 1) (pc := 59) (mc := 0) (ms := 0) rfl (by omega) dX2_readTerm_59) ?_
    refine sm_bipush (pc := 62) dX2_readTerm_62 zc_b_42 ?_
    refine sm_icmpS_eq (pc := 64) (tgt := 69) dX2_readTerm_64 (by decide) ?_ ?_
    · skip
      refine sm_aloadV_n (pc := 69) (n := 0) dX2_readTerm_69 rfl ?_
      refine gf_X2_60 (pc := 70) rfl dX2_readTerm_70 ?_
      refine sm_istore_n (pc := 73) (n := 3) dX2_readTerm_73 rfl ?_
      refine sm_aloadV_n (pc := 74) (n := 0) dX2_readTerm_74 rfl ?_
      refine sm_dup (pc := 75) dX2_readTerm_75 ?_
      refine gf_X2_60 (pc := 76) rfl dX2_readTerm_76 ?_
      refine sm_iconst (pc := 79) dX2_readTerm_79 zc_i_1 ?_
      refine sm_iaddR (pc := 80) dX2_readTerm_80 ?_
      refine pf_X2_60 (pc := 81) rfl dX2_readTerm_81 ?_
      refine sm_aloadV_n (pc := 84) (n := 0) dX2_readTerm_84 rfl ?_
      refine sm_iload_n (pc := 85) (n := 1) dX2_readTerm_85 rfl ?_
      refine sm_cV (pc := 86) (ci := 2) (n := 2) (mc := 0) (ms := 0) rfl (zMet_str hf1) (cr_X2_119 (X := X_X2_readTerm) (fr := n1 + n2 + 3) (frc := n1) (pc := 86) (mc := 0) (ms := 0) rfl (by omega) dX2_readTerm_86) ?_
      refine sm_ifS_ne (pc := 89) (tgt := 94) dX2_readTerm_89 (by decide) ?_ ?_
      · skip
        refine sm_aloadV_n (pc := 94) (n := 0) dX2_readTerm_94 rfl ?_
        refine sm_aloadV_n (pc := 95) (n := 0) dX2_readTerm_95 rfl ?_
        refine gf_X2_26 (pc := 96) rfl dX2_readTerm_96 ?_
        refine sm_iload_n (pc := 99) (n := 1) dX2_readTerm_99 rfl ?_
        exact scX2_readTermt_100 n1 n2 f1 f2 hf1 hf2 P r51 hr51
      · skip
        refine sm_iconst (pc := 92) dX2_readTerm_92 zc_i_0 ?_
        exact sm_zreturn (pc := 93) dX2_readTerm_93 rfl
    · skip
      refine sm_iconst (pc := 67) dX2_readTerm_67 zc_i_1 ?_
      exact sm_zreturn (pc := 68) dX2_readTerm_68 rfl
noncomputable def cX2_readTermt_40 {d : Nat} (f1 : List zV → zH d → zP d → Bool) (f2 : List zV → zH d → zP d → Bool) (P : zP d) : zK d := (xgfR 18 12 (xgfI 23 1 (xcpy 2 72 (xpI 0 (xist 2 (xlp 2 1 (hsC 201) (wkU 3 wkE) (fun r51 => (lX2_readTermt_51 f1 f2 P r51))))))))
set_option maxRecDepth 100000 in
set_option maxHeartbeats 4000000 in
theorem scX2_readTermt_40 {d : Nat} [zGh] (n1 n2 : Nat) (f1 : List zV → zH d → zP d → Bool) (f2 : List zV → zH d → zP d → Bool) (hf1 : zMet X_X2_readFactor yX2_readFactor n1 f1) (hf2 : zMet X_X2_multiply yX2_multiply n2 f2) (P : zP d) : zSim X_X2_readTerm (n1 + n2 + 3) P 40 (cX2_readTermt_40 f1 f2 P) := by
  unfold cX2_readTermt_40
  refine gf_X2_49 (pc := 40) rfl dX2_readTerm_40 ?_
  refine gf_X2_100 (pc := 43) rfl dX2_readTerm_43 ?_
  refine sm_copyJ (pc := 46) wd_753 wd_80 wd_79 wd_7 (by omega) dX2_readTerm_46 ?_
  refine sm_iconst (pc := 49) dX2_readTerm_49 zc_i_0 ?_
  refine sm_istore_n (pc := 50) (n := 2) dX2_readTerm_50 rfl ?_
  exact sm_lp (i := 2) (j := 1) (by decide) (by decide) hsC_ok (wkU_ok wkE_ok) (fun G1 hG1 r51 hr51 => @slX2_readTermt_51 d G1 n1 n2 f1 f2 hf1 hf2 P r51 hr51)
noncomputable def b_X2_readTermt {d : Nat} (f1 : List zV → zH d → zP d → Bool) (f2 : List zV → zH d → zP d → Bool) (P : zP d) : zK d := (xaldV 0 (xcV 18 1 0 0 (zstr (zenT 18 14 g_X2_next)) (xpop (xaldV 0 (xgfR 18 5 (xild 1 (xaldV 0 (xgfI 18 14 (xasQ 0 (fun v => v) (xaldV 0 (xild 1 (xcV 18 2 0 0 (zstr f1) (xif0S teqR rlEq rhEq rlNe rhNe (xpI 0 (xzret P)) (xaldV 0 (xgfR 18 3 (xild 1 (xaaT (xpI 0 (xaldV 0 (xgfR 18 2 (xild 1 (xaaT (xpI 0 (xaldV 0 (cX2_readTermt_40 f1 f2 P)))))))))))))))))))))))))
set_option maxRecDepth 100000 in
set_option maxHeartbeats 4000000 in
theorem s_X2_readTermt {d : Nat} [zGh] (n1 n2 : Nat) (f1 : List zV → zH d → zP d → Bool) (f2 : List zV → zH d → zP d → Bool) (hf1 : zMet X_X2_readFactor yX2_readFactor n1 f1) (hf2 : zMet X_X2_multiply yX2_multiply n2 f2) (P : zP d) : zSim X_X2_readTerm (n1 + n2 + 3) P 0 (b_X2_readTermt f1 f2 P) := by
  unfold b_X2_readTermt
  refine sm_aloadV_n (pc := 0) (n := 0) dX2_readTerm_0 rfl ?_
  refine sm_cV (pc := 1) (ci := 2) (n := 1) (mc := 0) (ms := 0) rfl (zMet_str (zMet_en (ci := 2) rfl rfl (by decide) mg_X2_next)) (cr_X2_74 (X := X_X2_readTerm) (fr := n1 + n2 + 3) (frc := 1) (pc := 1) (mc := 0) (ms := 0) rfl (by omega) dX2_readTerm_1) ?_
  refine sm_pop (pc := 4) dX2_readTerm_4 ?_
  refine sm_aloadV_n (pc := 5) (n := 0) dX2_readTerm_5 rfl ?_
  refine gf_X2_33 (pc := 6) rfl dX2_readTerm_6 ?_
  refine sm_iload_n (pc := 9) (n := 1) dX2_readTerm_9 rfl ?_
  refine sm_aloadV_n (pc := 10) (n := 0) dX2_readTerm_10 rfl ?_
  refine gf_X2_60 (pc := 11) rfl dX2_readTerm_11 ?_
  refine sm_iastoreQ (pc := 14) dX2_readTerm_14 ?_
  refine sm_aloadV_n (pc := 15) (n := 0) dX2_readTerm_15 rfl ?_
  refine sm_iload_n (pc := 16) (n := 1) dX2_readTerm_16 rfl ?_
  refine sm_cV (pc := 17) (ci := 2) (n := 2) (mc := 0) (ms := 0) rfl (zMet_str hf1) (cr_X2_119 (X := X_X2_readTerm) (fr := n1 + n2 + 3) (frc := n1) (pc := 17) (mc := 0) (ms := 0) rfl (by omega) dX2_readTerm_17) ?_
  refine sm_ifS_ne (pc := 20) (tgt := 25) dX2_readTerm_20 (by decide) ?_ ?_
  · skip
    refine sm_aloadV_n (pc := 25) (n := 0) dX2_readTerm_25 rfl ?_
    refine gf_X2_26 (pc := 26) rfl dX2_readTerm_26 ?_
    refine sm_iload_n (pc := 29) (n := 1) dX2_readTerm_29 rfl ?_
    refine sm_aaloadT (pc := 30) dX2_readTerm_30 ?_
    refine sm_iconst (pc := 31) dX2_readTerm_31 zc_i_0 ?_
    refine sm_aloadV_n (pc := 32) (n := 0) dX2_readTerm_32 rfl ?_
    refine gf_X2_23 (pc := 33) rfl dX2_readTerm_33 ?_
    refine sm_iload_n (pc := 36) (n := 1) dX2_readTerm_36 rfl ?_
    refine sm_aaloadT (pc := 37) dX2_readTerm_37 ?_
    refine sm_iconst (pc := 38) dX2_readTerm_38 zc_i_0 ?_
    refine sm_aloadV_n (pc := 39) (n := 0) dX2_readTerm_39 rfl ?_
    exact scX2_readTermt_40 n1 n2 f1 f2 hf1 hf2 P
  · skip
    refine sm_iconst (pc := 23) dX2_readTerm_23 zc_i_0 ?_
    exact sm_zreturn (pc := 24) dX2_readTerm_24 rfl
noncomputable def f_X2_readTermt {d : Nat} (f1 : List zV → zH d → zP d → Bool) (f2 : List zV → zH d → zP d → Bool) : List zV → zH d → zP d → Bool := zfn 4 (b_X2_readTermt f1 f2 )
theorem m_X2_readTermt {d : Nat} (n1 n2 : Nat) (f1 : List zV → zH d → zP d → Bool) (f2 : List zV → zH d → zP d → Bool) (hf1 : zMet X_X2_readFactor yX2_readFactor n1 f1) (hf2 : zMet X_X2_multiply yX2_multiply n2 f2) : zMet (d := d) X_X2_readTerm yX2_readTerm (n1 + n2 + 3) (f_X2_readTermt f1 f2 ) := zmet_mk (X := X_X2_readTerm) (by decide) rfl rfl (fun P => s_X2_readTermt n1 n2 f1 f2 hf1 hf2 P)

noncomputable def bX2_readSumt_121 {d : Nat} (f1 : List zV → zH d → zP d → Bool) (f2 : List zV → zH d → zP d → Bool) (P : zP d) (r51 : zK d) : zK d := (xaldV 0 (xgfR 18 1 (xild 1 (xaaT (xcV 18 4 0 0 (zstr f2) (xif0S teqR rlEq rhEq rlNe rhNe (xaldV 0 (xpI 6 (xild 4 (xild 1 (xpI 2 (xcV 18 5 0 0 (zstr f_X2_failt) (xzret P))))))) (xincR 2 1 r51)))))))
set_option maxRecDepth 100000 in
set_option maxHeartbeats 4000000 in
theorem sbX2_readSumt_121 {d : Nat} [zGh] (n1 n2 : Nat) (f1 : List zV → zH d → zP d → Bool) (f2 : List zV → zH d → zP d → Bool) (hf1 : zMet X_X2_readTerm yX2_readTerm n1 f1) (hf2 : zMet X_X2_add yX2_add n2 f2) (P : zP d) (r51 : zK d) (hr51 : zSimJ 2 X_X2_readSum (n1 + n2 + 3) P 51 r51) : zSim X_X2_readSum (n1 + n2 + 3) P 121 (bX2_readSumt_121 f1 f2 P r51) := by
  unfold bX2_readSumt_121
  refine sm_aloadV_n (pc := 121) (n := 0) dX2_readSum_121 rfl ?_
  refine gf_X2_20 (pc := 122) rfl dX2_readSum_122 ?_
  refine sm_iload_n (pc := 125) (n := 1) dX2_readSum_125 rfl ?_
  refine sm_aaloadT (pc := 126) dX2_readSum_126 ?_
  refine sm_cV (pc := 127) (ci := 2) (n := 4) (mc := 0) (ms := 0) rfl (zMet_str hf2) (cr_X2_111 (X := X_X2_readSum) (fr := n1 + n2 + 3) (frc := n2) (pc := 127) (mc := 0) (ms := 0) rfl (by omega) dX2_readSum_127) ?_
  refine sm_ifS_ne (pc := 130) (tgt := 144) dX2_readSum_130 (by decide) ?_ ?_
  · skip
    refine sm_iincR (pc := 144) (n := 2) dX2_readSum_144 zc_i_1 ?_
    refine sm_goto (pc := 147) (tgt := 51) dX2_readSum_147 (by decide) ?_
    exact hr51.use
  · skip
    refine sm_aloadV_n (pc := 133) (n := 0) dX2_readSum_133 rfl ?_
    refine sm_bipush (pc := 134) dX2_readSum_134 zc_b_6 ?_
    refine sm_iload (pc := 136) (n := 4) dX2_readSum_136 ?_
    refine sm_iload_n (pc := 138) (n := 1) dX2_readSum_138 rfl ?_
    refine sm_iconst (pc := 139) dX2_readSum_139 zc_i_2 ?_
    refine sm_cV (pc := 140) (ci := 2) (n := 5) (mc := 0) (ms := 0) rfl (zMet_str m_X2_failt) (cr_X2_115 (X := X_X2_readSum) (fr := n1 + n2 + 3) (frc := 2) (pc := 140) (mc := 0) (ms := 0) rfl (by omega) dX2_readSum_140) ?_
    exact sm_zreturn (pc := 143) dX2_readSum_143 rfl
noncomputable def bX2_readSumt_77 {d : Nat} (f1 : List zV → zH d → zP d → Bool) (f2 : List zV → zH d → zP d → Bool) (P : zP d) (r51 : zK d) : zK d := (xaldV 0 (xgfI 18 14 (xist 4 (xaldV 0 (xdup (xgfI 18 14 (xpI 1 (xbin zaddR (xpfI 18 14 (xaldV 0 (xild 1 (xcV 18 2 0 0 (zstr f1) (xif0S teqR rlEq rhEq rlNe rhNe (xpI 0 (xzret P)) (xaldV 0 (xaldV 0 (xgfR 18 2 (xild 1 (xaaT (xild 3 (xpI 45 (xjn wkE (zsp [zI 4294967298] 2) (bX2_readSumt_121 f1 f2 P r51) (fun j121 => (xcmpS teqR rlEq rhEq rlNe rhNe (xpI 1 j121) (xpI 0 j121))))))))))))))))))))))))
set_option maxRecDepth 100000 in
set_option maxHeartbeats 4000000 in
theorem sbX2_readSumt_77 {d : Nat} [zGh] (n1 n2 : Nat) (f1 : List zV → zH d → zP d → Bool) (f2 : List zV → zH d → zP d → Bool) (hf1 : zMet X_X2_readTerm yX2_readTerm n1 f1) (hf2 : zMet X_X2_add yX2_add n2 f2) (P : zP d) (r51 : zK d) (hr51 : zSimJ 2 X_X2_readSum (n1 + n2 + 3) P 51 r51) : zSim X_X2_readSum (n1 + n2 + 3) P 77 (bX2_readSumt_77 f1 f2 P r51) := by
  unfold bX2_readSumt_77
  refine sm_aloadV_n (pc := 77) (n := 0) dX2_readSum_77 rfl ?_
  refine gf_X2_60 (pc := 78) rfl dX2_readSum_78 ?_
  refine sm_istore (pc := 81) (n := 4) dX2_readSum_81 ?_
  refine sm_aloadV_n (pc := 83) (n := 0) dX2_readSum_83 rfl ?_
  refine sm_dup (pc := 84) dX2_readSum_84 ?_
  refine gf_X2_60 (pc := 85) rfl dX2_readSum_85 ?_
  refine sm_iconst (pc := 88) dX2_readSum_88 zc_i_1 ?_
  refine sm_iaddR (pc := 89) dX2_readSum_89 ?_
  refine pf_X2_60 (pc := 90) rfl dX2_readSum_90 ?_
  refine sm_aloadV_n (pc := 93) (n := 0) dX2_readSum_93 rfl ?_
  refine sm_iload_n (pc := 94) (n := 1) dX2_readSum_94 rfl ?_
  refine sm_cV (pc := 95) (ci := 2) (n := 2) (mc := 0) (ms := 0) rfl (zMet_str hf1) (cr_X2_97 (X := X_X2_readSum) (fr := n1 + n2 + 3) (frc := n1) (pc := 95) (mc := 0) (ms := 0) rfl (by omega) dX2_readSum_95) ?_
  refine sm_ifS_ne (pc := 98) (tgt := 103) dX2_readSum_98 (by decide) ?_ ?_
  · skip
    refine sm_aloadV_n (pc := 103) (n := 0) dX2_readSum_103 rfl ?_
    refine sm_aloadV_n (pc := 104) (n := 0) dX2_readSum_104 rfl ?_
    refine gf_X2_23 (pc := 105) rfl dX2_readSum_105 ?_
    refine sm_iload_n (pc := 108) (n := 1) dX2_readSum_108 rfl ?_
    refine sm_aaloadT (pc := 109) dX2_readSum_109 ?_
    refine sm_iload_n (pc := 110) (n := 3) dX2_readSum_110 rfl ?_
    refine sm_bipush (pc := 111) dX2_readSum_111 zc_b_45 ?_
    refine sm_jn (pc := 113) (pc' := 121) (j := 2) wkE_ok (zsp_ok _ _) (fun G0 hG0 => @sbX2_readSumt_121 d G0 n1 n2 f1 f2 hf1 hf2 P r51 (hr51.mv hG0 (by decide))) (fun j121 hj121 => ?_)
    refine sm_icmpS_ne (pc := 113) (tgt := 120) dX2_readSum_113 (by decide) ?_ ?_
    · skip
      refine sm_iconst (pc := 120) dX2_readSum_120 zc_i_0 ?_
      exact hj121.use
    · skip
      refine sm_iconst (pc := 116) dX2_readSum_116 zc_i_1 ?_
      refine sm_goto (pc := 117) (tgt := 121) dX2_readSum_117 (by decide) ?_
      exact hj121.use
  · skip
    refine sm_iconst (pc := 101) dX2_readSum_101 zc_i_0 ?_
    exact sm_zreturn (pc := 102) dX2_readSum_102 rfl
noncomputable def lX2_readSumt_51 {d : Nat} (f1 : List zV → zH d → zP d → Bool) (f2 : List zV → zH d → zP d → Bool) (P : zP d) (r51 : zK d) : zK d := (xild 2 (xpI 200 (xcmpS tgeR rlGe rhS rlS rhLt (xpI 1 (xzret P)) (xaldV 0 (xcV 18 1 0 0 (zstr (zenT 18 14 g_X2_next)) (xist 3 (xild 3 (xpI 43 (xjoin (bX2_readSumt_77 f1 f2 P r51) (fun j77 => (xcmpS teqR rlEq rhEq rlNe rhNe j77 (xild 3 (xpI 45 (xcmpS teqR rlEq rhEq rlNe rhNe j77 (xpI 1 (xzret P))))))))))))))))
set_option maxRecDepth 100000 in
set_option maxHeartbeats 4000000 in
theorem slX2_readSumt_51 {d : Nat} [zGh] (n1 n2 : Nat) (f1 : List zV → zH d → zP d → Bool) (f2 : List zV → zH d → zP d → Bool) (hf1 : zMet X_X2_readTerm yX2_readTerm n1 f1) (hf2 : zMet X_X2_add yX2_add n2 f2) (P : zP d) (r51 : zK d) (hr51 : zSimJ 2 X_X2_readSum (n1 + n2 + 3) P 51 r51) : zSim X_X2_readSum (n1 + n2 + 3) P 51 (lX2_readSumt_51 f1 f2 P r51) := by
  unfold lX2_readSumt_51
  refine sm_iload_n (pc := 51) (n := 2) dX2_readSum_51 rfl ?_
  refine sm_sipush (pc := 52) dX2_readSum_52 zc_s_200 ?_
  refine sm_icmpS_ge (pc := 55) (tgt := 150) dX2_readSum_55 (by decide) ?_ ?_
  · skip
    refine sm_iconst (pc := 150) dX2_readSum_150 zc_i_1 ?_
    exact sm_zreturn (pc := 151) dX2_readSum_151 rfl
  · skip
    refine sm_aloadV_n (pc := 58) (n := 0) dX2_readSum_58 rfl ?_
    refine sm_cV (pc := 59) (ci := 2) (n := 1) (mc := 0) (ms := 0) rfl (zMet_str (zMet_en (ci := 2) rfl rfl (by decide) mg_X2_next)) (cr_X2_74 (X := X_X2_readSum) (fr := n1 + n2 + 3) (frc := 1) (pc := 59) (mc := 0) (ms := 0) rfl (by omega) dX2_readSum_59) ?_
    refine sm_istore_n (pc := 62) (n := 3) dX2_readSum_62 rfl ?_
    refine sm_iload_n (pc := 63) (n := 3) dX2_readSum_63 rfl ?_
    refine sm_bipush (pc := 64) dX2_readSum_64 zc_b_43 ?_
    refine sm_joinJ (pc := 66) (pc' := 77) (j := 2) (fun G0 hG0 => @sbX2_readSumt_77 d G0 n1 n2 f1 f2 hf1 hf2 P r51 (hr51.mv hG0 (by decide))) (fun j77 hj77 => ?_)
    refine sm_icmpS_eq (pc := 66) (tgt := 77) dX2_readSum_66 (by decide) ?_ ?_
    · skip
      exact hj77.use
    · skip
      refine sm_iload_n (pc := 69) (n := 3) dX2_readSum_69 rfl ?_
      refine sm_bipush (pc := 70) dX2_readSum_70 zc_b_45 ?_
      refine sm_icmpS_eq (pc := 72) (tgt := 77) dX2_readSum_72 (by decide) ?_ ?_
      · skip
        exact hj77.use
      · skip
        refine sm_iconst (pc := 75) dX2_readSum_75 zc_i_1 ?_
        exact sm_zreturn (pc := 76) dX2_readSum_76 rfl
noncomputable def cX2_readSumt_40 {d : Nat} (f1 : List zV → zH d → zP d → Bool) (f2 : List zV → zH d → zP d → Bool) (P : zP d) : zK d := (xgfR 18 12 (xgfI 23 1 (xcpy 2 72 (xpI 0 (xist 2 (xlp 2 1 (hsC 201) (wkU 3 (wkU 4 wkE)) (fun r51 => (lX2_readSumt_51 f1 f2 P r51))))))))
set_option maxRecDepth 100000 in
set_option maxHeartbeats 4000000 in
theorem scX2_readSumt_40 {d : Nat} [zGh] (n1 n2 : Nat) (f1 : List zV → zH d → zP d → Bool) (f2 : List zV → zH d → zP d → Bool) (hf1 : zMet X_X2_readTerm yX2_readTerm n1 f1) (hf2 : zMet X_X2_add yX2_add n2 f2) (P : zP d) : zSim X_X2_readSum (n1 + n2 + 3) P 40 (cX2_readSumt_40 f1 f2 P) := by
  unfold cX2_readSumt_40
  refine gf_X2_49 (pc := 40) rfl dX2_readSum_40 ?_
  refine gf_X2_100 (pc := 43) rfl dX2_readSum_43 ?_
  refine sm_copyJ (pc := 46) wd_753 wd_80 wd_79 wd_7 (by omega) dX2_readSum_46 ?_
  refine sm_iconst (pc := 49) dX2_readSum_49 zc_i_0 ?_
  refine sm_istore_n (pc := 50) (n := 2) dX2_readSum_50 rfl ?_
  exact sm_lp (i := 2) (j := 1) (by decide) (by decide) hsC_ok (wkU_ok (wkU_ok wkE_ok)) (fun G1 hG1 r51 hr51 => @slX2_readSumt_51 d G1 n1 n2 f1 f2 hf1 hf2 P r51 hr51)
noncomputable def b_X2_readSumt {d : Nat} (f1 : List zV → zH d → zP d → Bool) (f2 : List zV → zH d → zP d → Bool) (P : zP d) : zK d := (xaldV 0 (xcV 18 1 0 0 (zstr (zenT 18 14 g_X2_next)) (xpop (xaldV 0 (xgfR 18 4 (xild 1 (xaldV 0 (xgfI 18 14 (xasQ 0 (fun v => v) (xaldV 0 (xild 1 (xcV 18 2 0 0 (zstr f1) (xif0S teqR rlEq rhEq rlNe rhNe (xpI 0 (xzret P)) (xaldV 0 (xgfR 18 2 (xild 1 (xaaT (xpI 0 (xaldV 0 (xgfR 18 1 (xild 1 (xaaT (xpI 0 (xaldV 0 (cX2_readSumt_40 f1 f2 P)))))))))))))))))))))))))
set_option maxRecDepth 100000 in
set_option maxHeartbeats 4000000 in
theorem s_X2_readSumt {d : Nat} [zGh] (n1 n2 : Nat) (f1 : List zV → zH d → zP d → Bool) (f2 : List zV → zH d → zP d → Bool) (hf1 : zMet X_X2_readTerm yX2_readTerm n1 f1) (hf2 : zMet X_X2_add yX2_add n2 f2) (P : zP d) : zSim X_X2_readSum (n1 + n2 + 3) P 0 (b_X2_readSumt f1 f2 P) := by
  unfold b_X2_readSumt
  refine sm_aloadV_n (pc := 0) (n := 0) dX2_readSum_0 rfl ?_
  refine sm_cV (pc := 1) (ci := 2) (n := 1) (mc := 0) (ms := 0) rfl (zMet_str (zMet_en (ci := 2) rfl rfl (by decide) mg_X2_next)) (cr_X2_74 (X := X_X2_readSum) (fr := n1 + n2 + 3) (frc := 1) (pc := 1) (mc := 0) (ms := 0) rfl (by omega) dX2_readSum_1) ?_
  refine sm_pop (pc := 4) dX2_readSum_4 ?_
  refine sm_aloadV_n (pc := 5) (n := 0) dX2_readSum_5 rfl ?_
  refine gf_X2_29 (pc := 6) rfl dX2_readSum_6 ?_
  refine sm_iload_n (pc := 9) (n := 1) dX2_readSum_9 rfl ?_
  refine sm_aloadV_n (pc := 10) (n := 0) dX2_readSum_10 rfl ?_
  refine gf_X2_60 (pc := 11) rfl dX2_readSum_11 ?_
  refine sm_iastoreQ (pc := 14) dX2_readSum_14 ?_
  refine sm_aloadV_n (pc := 15) (n := 0) dX2_readSum_15 rfl ?_
  refine sm_iload_n (pc := 16) (n := 1) dX2_readSum_16 rfl ?_
  refine sm_cV (pc := 17) (ci := 2) (n := 2) (mc := 0) (ms := 0) rfl (zMet_str hf1) (cr_X2_97 (X := X_X2_readSum) (fr := n1 + n2 + 3) (frc := n1) (pc := 17) (mc := 0) (ms := 0) rfl (by omega) dX2_readSum_17) ?_
  refine sm_ifS_ne (pc := 20) (tgt := 25) dX2_readSum_20 (by decide) ?_ ?_
  · skip
    refine sm_aloadV_n (pc := 25) (n := 0) dX2_readSum_25 rfl ?_
    refine gf_X2_23 (pc := 26) rfl dX2_readSum_26 ?_
    refine sm_iload_n (pc := 29) (n := 1) dX2_readSum_29 rfl ?_
    refine sm_aaloadT (pc := 30) dX2_readSum_30 ?_
    refine sm_iconst (pc := 31) dX2_readSum_31 zc_i_0 ?_
    refine sm_aloadV_n (pc := 32) (n := 0) dX2_readSum_32 rfl ?_
    refine gf_X2_20 (pc := 33) rfl dX2_readSum_33 ?_
    refine sm_iload_n (pc := 36) (n := 1) dX2_readSum_36 rfl ?_
    refine sm_aaloadT (pc := 37) dX2_readSum_37 ?_
    refine sm_iconst (pc := 38) dX2_readSum_38 zc_i_0 ?_
    refine sm_aloadV_n (pc := 39) (n := 0) dX2_readSum_39 rfl ?_
    exact scX2_readSumt_40 n1 n2 f1 f2 hf1 hf2 P
  · skip
    refine sm_iconst (pc := 23) dX2_readSum_23 zc_i_0 ?_
    exact sm_zreturn (pc := 24) dX2_readSum_24 rfl
noncomputable def f_X2_readSumt {d : Nat} (f1 : List zV → zH d → zP d → Bool) (f2 : List zV → zH d → zP d → Bool) : List zV → zH d → zP d → Bool := zfn 5 (b_X2_readSumt f1 f2 )
theorem m_X2_readSumt {d : Nat} (n1 n2 : Nat) (f1 : List zV → zH d → zP d → Bool) (f2 : List zV → zH d → zP d → Bool) (hf1 : zMet X_X2_readTerm yX2_readTerm n1 f1) (hf2 : zMet X_X2_add yX2_add n2 f2) : zMet (d := d) X_X2_readSum yX2_readSum (n1 + n2 + 3) (f_X2_readSumt f1 f2 ) := zmet_mk (X := X_X2_readSum) (by decide) rfl rfl (fun P => s_X2_readSumt n1 n2 f1 f2 hf1 hf2 P)

noncomputable def bX2_readt_54 {d : Nat} (f1 : List zV → zH d → zP d → Bool) (P : zP d) : zK d := (xzret P)
set_option maxRecDepth 100000 in
set_option maxHeartbeats 4000000 in
theorem sbX2_readt_54 {d : Nat} [zGh] (n1 : Nat) (f1 : List zV → zH d → zP d → Bool) (hf1 : zMet X_X2_readSum yX2_readSum n1 f1) (P : zP d) : zSim X_X2_read (n1 + 3) P 54 (bX2_readt_54 f1 P) := by
  unfold bX2_readt_54
  exact sm_zreturn (pc := 54) dX2_read_54 rfl
noncomputable def bX2_readt_53 {d : Nat} (f1 : List zV → zH d → zP d → Bool) (P : zP d) (j54 : zK d) : zK d := (xpI 0 j54)
set_option maxRecDepth 100000 in
set_option maxHeartbeats 4000000 in
theorem sbX2_readt_53 {d : Nat} [zGh] (n1 : Nat) (f1 : List zV → zH d → zP d → Bool) (hf1 : zMet X_X2_readSum yX2_readSum n1 f1) (P : zP d) (j54 : zK d) (hj54 : zSimJ 1 X_X2_read (n1 + 3) P 54 j54) : zSim X_X2_read (n1 + 3) P 53 (bX2_readt_53 f1 P j54) := by
  unfold bX2_readt_53
  refine sm_iconst (pc := 53) dX2_read_53 zc_i_0 ?_
  exact hj54.use
noncomputable def bX2_readt_49 {d : Nat} (f1 : List zV → zH d → zP d → Bool) (P : zP d) (j54 : zK d) : zK d := (xpI 1 j54)
set_option maxRecDepth 100000 in
set_option maxHeartbeats 4000000 in
theorem sbX2_readt_49 {d : Nat} [zGh] (n1 : Nat) (f1 : List zV → zH d → zP d → Bool) (hf1 : zMet X_X2_readSum yX2_readSum n1 f1) (P : zP d) (j54 : zK d) (hj54 : zSimJ 1 X_X2_read (n1 + 3) P 54 j54) : zSim X_X2_read (n1 + 3) P 49 (bX2_readt_49 f1 P j54) := by
  unfold bX2_readt_49
  refine sm_iconst (pc := 49) dX2_read_49 zc_i_1 ?_
  refine sm_goto (pc := 50) (tgt := 54) dX2_read_50 (by decide) ?_
  exact hj54.use
noncomputable def cX2_readt_46 {d : Nat} (f1 : List zV → zH d → zP d → Bool) (P : zP d) (j49 : zK d) (j53 : zK d) : zK d := (xif0S teqR rlEq rhEq rlNe rhNe j53 j49)
set_option maxRecDepth 100000 in
set_option maxHeartbeats 4000000 in
theorem scX2_readt_46 {d : Nat} [zGh] (n1 : Nat) (f1 : List zV → zH d → zP d → Bool) (hf1 : zMet X_X2_readSum yX2_readSum n1 f1) (P : zP d) (j49 : zK d) (j53 : zK d) (hj49 : zSimJ 1 X_X2_read (n1 + 3) P 49 j49) (hj53 : zSimJ 1 X_X2_read (n1 + 3) P 53 j53) : zSim X_X2_read (n1 + 3) P 46 (cX2_readt_46 f1 P j49 j53) := by
  unfold cX2_readt_46
  refine sm_ifS_eq (pc := 46) (tgt := 53) dX2_read_46 (by decide) ?_ ?_
  · skip
    exact hj53.use
  · skip
    exact hj49.use
noncomputable def b_X2_readt {d : Nat} (f1 : List zV → zH d → zP d → Bool) (P : zP d) : zK d := (xaldV 0 (xgfR 18 0 (xcV 17 1 0 0 (zstr f_X1_cleart) (xaldV 0 (xpI 0 (xpfI 18 14 (xaldV 0 (xgfR 18 1 (xpI 0 (xaaT (xpL 0 (xcS 2 0 0 (zstr f_J7_fill_d0a16) (xaldV 0 (xpI 0 (xcV 18 2 0 0 (zstr f1) (xjoin (bX2_readt_54 f1 P) (fun j54 => (xjoin (bX2_readt_53 f1 P j54) (fun j53 => (xif0S teqR rlEq rhEq rlNe rhNe j53 (xaldV 0 (xcV 18 1 0 0 (zstr (zenT 18 14 g_X2_next)) (xpI 4294967295 (xjoin (bX2_readt_49 f1 P j54) (fun j49 => (xcmpS teqR rlEq rhEq rlNe rhNe j49 (xaldV 0 (xaldV 0 (xgfI 18 14 (xcV 18 2 0 0 (zstr f_X2_refuset) (cX2_readt_46 f1 P j49 j53)))))))))))))))))))))))))))))))
set_option maxRecDepth 100000 in
set_option maxHeartbeats 4000000 in
theorem s_X2_readt {d : Nat} [zGh] (n1 : Nat) (f1 : List zV → zH d → zP d → Bool) (hf1 : zMet X_X2_readSum yX2_readSum n1 f1) (P : zP d) : zSim X_X2_read (n1 + 3) P 0 (b_X2_readt f1 P) := by
  unfold b_X2_readt
  refine sm_aloadV_n (pc := 0) (n := 0) dX2_read_0 rfl ?_
  refine gf_X2_12 (pc := 1) rfl dX2_read_1 ?_
  refine sm_cV (pc := 4) (ci := 1) (n := 1) (mc := 0) (ms := 0) rfl (zMet_str m_X1_cleart) (cr_X2_57 (X := X_X2_read) (fr := n1 + 3) (frc := 1) (pc := 4) (mc := 0) (ms := 0) rfl (by omega) dX2_read_4) ?_
  refine sm_aloadV_n (pc := 7) (n := 0) dX2_read_7 rfl ?_
  refine sm_iconst (pc := 8) dX2_read_8 zc_i_0 ?_
  refine pf_X2_60 (pc := 9) rfl dX2_read_9 ?_
  refine sm_aloadV_n (pc := 12) (n := 0) dX2_read_12 rfl ?_
  refine gf_X2_20 (pc := 13) rfl dX2_read_13 ?_
  refine sm_iconst (pc := 16) dX2_read_16 zc_i_0 ?_
  refine sm_aaloadT (pc := 17) dX2_read_17 ?_
  refine sm_lconst (pc := 18) dX2_read_18 zc_l_0 ?_
  refine sm_cS (pc := 19) (n := 2) (mc := 0) (ms := 0) (zMet_str m_J7_fill_d0a16) (cr_X2_64 (X := X_X2_read) (fr := n1 + 3) (frc := 1) (pc := 19) (mc := 0) (ms := 0) rfl (by omega) dX2_read_19) ?_
  refine sm_aloadV_n (pc := 22) (n := 0) dX2_read_22 rfl ?_
  refine sm_iconst (pc := 23) dX2_read_23 zc_i_0 ?_
  refine sm_cV (pc := 24) (ci := 2) (n := 2) (mc := 0) (ms := 0) rfl (zMet_str hf1) (cr_X2_70 (X := X_X2_read) (fr := n1 + 3) (frc := n1) (pc := 24) (mc := 0) (ms := 0) rfl (by omega) dX2_read_24) ?_
  refine sm_joinJ (pc := 27) (pc' := 54) (j := 1) (fun G0 hG0 => @sbX2_readt_54 d G0 n1 f1 hf1 P) (fun j54 hj54 => ?_)
  refine sm_joinJ (pc := 27) (pc' := 53) (j := 1) (fun G0 hG0 => @sbX2_readt_53 d G0 n1 f1 hf1 P j54 (hj54.mv hG0 (by decide))) (fun j53 hj53 => ?_)
  refine sm_ifS_eq (pc := 27) (tgt := 53) dX2_read_27 (by decide) ?_ ?_
  · skip
    exact hj53.use
  · skip
    refine sm_aloadV_n (pc := 30) (n := 0) dX2_read_30 rfl ?_
    refine sm_cV (pc := 31) (ci := 2) (n := 1) (mc := 0) (ms := 0) rfl (zMet_str (zMet_en (ci := 2) rfl rfl (by decide) mg_X2_next)) (cr_X2_74 (X := X_X2_read) (fr := n1 + 3) (frc := 1) (pc := 31) (mc := 0) (ms := 0) rfl (by omega) dX2_read_31) ?_
    refine sm_iconst (pc := 34) dX2_read_34 zc_i_m1 ?_
    refine sm_joinJ (pc := 35) (pc' := 49) (j := 1) (fun G0 hG0 => @sbX2_readt_49 d G0 n1 f1 hf1 P j54 (hj54.mv hG0 (by decide))) (fun j49 hj49 => ?_)
    refine sm_icmpS_eq (pc := 35) (tgt := 49) dX2_read_35 (by decide) ?_ ?_
    · skip
      exact hj49.use
    · skip
      refine sm_aloadV_n (pc := 38) (n := 0) dX2_read_38 rfl ?_
      refine sm_aloadV_n (pc := 39) (n := 0) dX2_read_39 rfl ?_
      refine gf_X2_60 (pc := 40) rfl dX2_read_40 ?_
      refine sm_cV (pc := 43) (ci := 2) (n := 2) (mc := 0) (ms := 0) rfl (zMet_str m_X2_refuset) (cr_X2_78 (X := X_X2_read) (fr := n1 + 3) (frc := 2) (pc := 43) (mc := 0) (ms := 0) rfl (by omega) dX2_read_43) ?_
      exact scX2_readt_46 n1 f1 hf1 P j49 j53 hj49 hj53
noncomputable def f_X2_readt {d : Nat} (f1 : List zV → zH d → zP d → Bool) : List zV → zH d → zP d → Bool := zfn 1 (b_X2_readt f1 )
theorem m_X2_readt {d : Nat} (n1 : Nat) (f1 : List zV → zH d → zP d → Bool) (hf1 : zMet X_X2_readSum yX2_readSum n1 f1) : zMet (d := d) X_X2_read yX2_read (n1 + 3) (f_X2_readt f1 ) := zmet_mk (X := X_X2_read) (by decide) rfl rfl (fun P => s_X2_readt n1 f1 hf1 P)

noncomputable def bX8_textt_62 {d : Nat} (f1 : List zV → zH d → zP d → Bool) (P : zP d) : zK d := (xaldV 0 (xgfR 24 4 (xpI 0 (xpfI 22 1 (xild 2 (xiret P))))))
set_option maxRecDepth 100000 in
set_option maxHeartbeats 4000000 in
theorem sbX8_textt_62 {d : Nat} [zGh] (n1 : Nat) (f1 : List zV → zH d → zP d → Bool) (hf1 : zMet X_X2_read yX2_read n1 f1) (P : zP d) : zSim X_X8_text (n1 + 2) P 62 (bX8_textt_62 f1 P) := by
  unfold bX8_textt_62
  refine sm_aloadV_n (pc := 62) (n := 0) dX8_text_62 rfl ?_
  refine gf_X8_33 (pc := 63) rfl dX8_text_63 ?_
  refine sm_iconst (pc := 66) dX8_text_66 zc_i_0 ?_
  refine pf_X8_85 (pc := 67) rfl dX8_text_67 ?_
  refine sm_iload_n (pc := 70) (n := 2) dX8_text_70 rfl ?_
  exact sm_ireturn (pc := 71) dX8_text_71 rfl
noncomputable def cX8_textt_57 {d : Nat} (f1 : List zV → zH d → zP d → Bool) (P : zP d) (j62 : zK d) : zK d := j62
set_option maxRecDepth 100000 in
set_option maxHeartbeats 4000000 in
theorem scX8_textt_57 {d : Nat} [zGh] (n1 : Nat) (f1 : List zV → zH d → zP d → Bool) (hf1 : zMet X_X2_read yX2_read n1 f1) (P : zP d) (j62 : zK d) (hj62 : zSimJ 1 X_X8_text (n1 + 2) P 62 j62) : zSim X_X8_text (n1 + 2) P 57 (cX8_textt_57 f1 P j62) := by
  unfold cX8_textt_57
  refine sm_goto (pc := 57) (tgt := 62) dX8_text_57 (by decide) ?_
  exact hj62.use
noncomputable def b_X8_textt {d : Nat} (f1 : List zV → zH d → zP d → Bool) (P : zP d) : zK d := (xpI 4294967294 (xist 2 (xild 1 (xcS 1 0 0 (zstr f_X8_isSlott) (xjoin (bX8_textt_62 f1 P) (fun j62 => (xif0S teqR rlEq rhEq rlNe rhNe (xaldV 0 (xgfR 24 5 (xgfR 18 0 (xcV 17 1 0 0 (zstr f_X1_cleart) j62)))) (xaldV 0 (xgfR 24 5 (xcV 18 1 0 0 (zstr f1) (xif0S teqR rlEq rhEq rlNe rhNe (xpI 4294967295 (xist 2 j62)) (xaldV 0 (xgfR 24 5 (xgfR 18 1 (xpI 0 (xaaT (xpI 0 (xaldV 0 (xgfR 24 2 (xild 1 (xaaT (xpI 0 (xpI 11 (xcpy 2 72 (xpI 0 (xist 2 (cX8_textt_57 f1 P j62)))))))))))))))))))))))))))
set_option maxRecDepth 100000 in
set_option maxHeartbeats 4000000 in
theorem s_X8_textt {d : Nat} [zGh] (n1 : Nat) (f1 : List zV → zH d → zP d → Bool) (hf1 : zMet X_X2_read yX2_read n1 f1) (P : zP d) : zSim X_X8_text (n1 + 2) P 0 (b_X8_textt f1 P) := by
  unfold b_X8_textt
  refine sm_bipush (pc := 0) dX8_text_0 zc_b_m2 ?_
  refine sm_istore_n (pc := 2) (n := 2) dX8_text_2 rfl ?_
  refine sm_iload_n (pc := 3) (n := 1) dX8_text_3 rfl ?_
  refine sm_cS (pc := 4) (n := 1) (mc := 0) (ms := 0) (zMet_str m_X8_isSlott) (cr_X8_88 (X := X_X8_text) (fr := n1 + 2) (frc := 1) (pc := 4) (mc := 0) (ms := 0) rfl (by omega) dX8_text_4) ?_
  refine sm_joinJ (pc := 7) (pc' := 62) (j := 1) (fun G0 hG0 => @sbX8_textt_62 d G0 n1 f1 hf1 P) (fun j62 hj62 => ?_)
  refine sm_ifS_ne (pc := 7) (tgt := 23) dX8_text_7 (by decide) ?_ ?_
  · skip
    refine sm_aloadV_n (pc := 23) (n := 0) dX8_text_23 rfl ?_
    refine gf_X8_60 (pc := 24) rfl dX8_text_24 ?_
    refine sm_cV (pc := 27) (ci := 2) (n := 1) (mc := 0) (ms := 0) rfl (zMet_str hf1) (cr_X8_100 (X := X_X8_text) (fr := n1 + 2) (frc := n1) (pc := 27) (mc := 0) (ms := 0) rfl (by omega) dX8_text_27) ?_
    refine sm_ifS_eq (pc := 30) (tgt := 60) dX8_text_30 (by decide) ?_ ?_
    · skip
      refine sm_iconst (pc := 60) dX8_text_60 zc_i_m1 ?_
      refine sm_istore_n (pc := 61) (n := 2) dX8_text_61 rfl ?_
      exact hj62.use
    · skip
      refine sm_aloadV_n (pc := 33) (n := 0) dX8_text_33 rfl ?_
      refine gf_X8_60 (pc := 34) rfl dX8_text_34 ?_
      refine gf_X8_104 (pc := 37) rfl dX8_text_37 ?_
      refine sm_iconst (pc := 40) dX8_text_40 zc_i_0 ?_
      refine sm_aaloadT (pc := 41) dX8_text_41 ?_
      refine sm_iconst (pc := 42) dX8_text_42 zc_i_0 ?_
      refine sm_aloadV_n (pc := 43) (n := 0) dX8_text_43 rfl ?_
      refine gf_X8_23 (pc := 44) rfl dX8_text_44 ?_
      refine sm_iload_n (pc := 47) (n := 1) dX8_text_47 rfl ?_
      refine sm_aaloadT (pc := 48) dX8_text_48 ?_
      refine sm_iconst (pc := 49) dX8_text_49 zc_i_0 ?_
      refine sm_bipush (pc := 50) dX8_text_50 zc_b_11 ?_
      refine sm_copyJ (pc := 52) wd_771 wd_80 wd_79 wd_7 (by omega) dX8_text_52 ?_
      refine sm_iconst (pc := 55) dX8_text_55 zc_i_0 ?_
      refine sm_istore_n (pc := 56) (n := 2) dX8_text_56 rfl ?_
      exact scX8_textt_57 n1 f1 hf1 P j62 hj62
  · skip
    refine sm_aloadV_n (pc := 10) (n := 0) dX8_text_10 rfl ?_
    refine gf_X8_60 (pc := 11) rfl dX8_text_11 ?_
    refine gf_X8_91 (pc := 14) rfl dX8_text_14 ?_
    refine sm_cV (pc := 17) (ci := 1) (n := 1) (mc := 0) (ms := 0) rfl (zMet_str m_X1_cleart) (cr_X8_95 (X := X_X8_text) (fr := n1 + 2) (frc := 1) (pc := 17) (mc := 0) (ms := 0) rfl (by omega) dX8_text_17) ?_
    refine sm_goto (pc := 20) (tgt := 62) dX8_text_20 (by decide) ?_
    exact hj62.use
noncomputable def f_X8_textt {d : Nat} (f1 : List zV → zH d → zP d → Bool) : List zV → zH d → zP d → Bool := zfn 3 (b_X8_textt f1 )
theorem m_X8_textt {d : Nat} (n1 : Nat) (f1 : List zV → zH d → zP d → Bool) (hf1 : zMet X_X2_read yX2_read n1 f1) : zMet (d := d) X_X8_text yX8_text (n1 + 2) (f_X8_textt f1 ) := zmet_mk (X := X_X8_text) (by decide) rfl rfl (fun P => s_X8_textt n1 f1 hf1 P)
