/-! end, by program -/
theorem gfT_X8_85 [zGh] {d : Nat} {X : zM} {fr : Nat} {P : zP d} {pc : Nat} {k : zK d} (h1 : X.1 = RX8) (dg : decode X.2.1 pc = .ok (.getfield 85, 3)) (hs : zSim X fr P (pc + 3) k) : zSim X fr P pc (xgfT 22 1 k) := sm_getfieldT (ci := 6) (n := 1) (C := RX6) (T := TX6) (N := 2) rfl rfl inz6 rfl (by decide) rfl (by rw [h1]; exact wd_38) rfl dg hs
theorem gfT_X9_347 [zGh] {d : Nat} {X : zM} {fr : Nat} {P : zP d} {pc : Nat} {k : zK d} (h1 : X.1 = RX9) (dg : decode X.2.1 pc = .ok (.getfield 347, 3)) (hs : zSim X fr P (pc + 3) k) : zSim X fr P pc (xgfT 25 46 k) := sm_getfieldT (ci := 9) (n := 46) (C := RX9) (T := TX9) (N := 63) rfl rfl inz9 rfl (by decide) rfl (by rw [h1]; exact wd_1064) rfl dg hs
noncomputable def bX8_endt_15 {d : Nat} (P : zP d) : zK d := (xpI 0 (xzret P))
set_option maxRecDepth 100000 in
set_option maxHeartbeats 4000000 in
theorem sbX8_endt_15 {d : Nat} [zGh] (P : zP d) : zSim X_X8_end 1 P 15 (bX8_endt_15 P) := by
  unfold bX8_endt_15
  refine sm_iconst (pc := 15) dX8_end_15 zc_i_0 ?_
  exact sm_zreturn (pc := 16) dX8_end_16 rfl
noncomputable def b_X8_endt {d : Nat} (P : zP d) : zK d := (xild 1 (xjoin (bX8_endt_15 P) (fun j15 => (xif0S tgeR rlGe rhS rlS rhLt (xild 1 (xaldV 0 (xgfR 24 4 (xgfT 22 1 (xcmpS tleR rlS rhLe rlGt rhS (xaldV 0 (xgfR 24 4 (xild 1 (xpfI 22 1 (xpI 1 (xzret P)))))) j15))))) j15))))
set_option maxRecDepth 100000 in
set_option maxHeartbeats 4000000 in
theorem s_X8_endt {d : Nat} [zGh] (P : zP d) : zSim X_X8_end 1 P 0 (b_X8_endt P) := by
  unfold b_X8_endt
  refine sm_iload_n (pc := 0) (n := 1) dX8_end_0 rfl ?_
  refine sm_joinJ (pc := 1) (pc' := 15) (j := 1) (fun G0 hG0 => @sbX8_endt_15 d G0 P) (fun j15 hj15 => ?_)
  refine sm_ifS_lt (pc := 1) (tgt := 15) dX8_end_1 (by decide) ?_ ?_
  · skip
    exact hj15.use
  · skip
    refine sm_iload_n (pc := 4) (n := 1) dX8_end_4 rfl ?_
    refine sm_aloadV_n (pc := 5) (n := 0) dX8_end_5 rfl ?_
    refine gf_X8_33 (pc := 6) rfl dX8_end_6 ?_
    refine gfT_X8_85 (pc := 9) rfl dX8_end_9 ?_
    refine sm_icmpS_le (pc := 12) (tgt := 17) dX8_end_12 (by decide) ?_ ?_
    · skip
      refine sm_aloadV_n (pc := 17) (n := 0) dX8_end_17 rfl ?_
      refine gf_X8_33 (pc := 18) rfl dX8_end_18 ?_
      refine sm_iload_n (pc := 21) (n := 1) dX8_end_21 rfl ?_
      refine pf_X8_85 (pc := 22) rfl dX8_end_22 ?_
      refine sm_iconst (pc := 25) dX8_end_25 zc_i_1 ?_
      exact sm_zreturn (pc := 26) dX8_end_26 rfl
    · skip
      exact hj15.use
noncomputable def f_X8_endt {d : Nat} : List zV → zH d → zP d → Bool := zfn 2 (b_X8_endt )
theorem m_X8_endt {d : Nat} : zMet (d := d) X_X8_end yX8_end 1 (f_X8_endt ) := zmet_mk (X := X_X8_end) (by decide) rfl rfl (fun P => s_X8_endt P)

noncomputable def b_X9_endt {d : Nat} (P : zP d) : zK d := (xild 1 (xi2lR (xpL 0 (xaldV 0 (xgfT 25 46 (xi2lR (xcS 3 0 0 (zstr f_X9_isIna) (xif0S teqR rlEq rhEq rlNe rhNe (xpI 0 (xzret P)) (xaldV 0 (xild 1 (xpfI 25 46 (xpI 1 (xzret P)))))))))))))
set_option maxRecDepth 100000 in
set_option maxHeartbeats 4000000 in
theorem s_X9_endt {d : Nat} [zGh] (P : zP d) : zSim X_X9_end 2 P 0 (b_X9_endt P) := by
  unfold b_X9_endt
  refine sm_iload_n (pc := 0) (n := 1) dX9_end_0 rfl ?_
  refine sm_i2lR (pc := 1) dX9_end_1 ?_
  refine sm_lconst (pc := 2) dX9_end_2 zc_l_0 ?_
  refine sm_aloadV_n (pc := 3) (n := 0) dX9_end_3 rfl ?_
  refine gfT_X9_347 (pc := 4) rfl dX9_end_4 ?_
  refine sm_i2lR (pc := 7) dX9_end_7 ?_
  refine sm_cS (pc := 8) (n := 3) (mc := 0) (ms := 0) (zMet_str m_X9_isIna) (cr_X9_283 (X := X_X9_end) (fr := 2) (frc := 1) (pc := 8) (mc := 0) (ms := 0) rfl (by decide) dX9_end_8) ?_
  refine sm_ifS_ne (pc := 11) (tgt := 16) dX9_end_11 (by decide) ?_ ?_
  · skip
    refine sm_aloadV_n (pc := 16) (n := 0) dX9_end_16 rfl ?_
    refine sm_iload_n (pc := 17) (n := 1) dX9_end_17 rfl ?_
    refine pf_X9_347 (pc := 18) rfl dX9_end_18 ?_
    refine sm_iconst (pc := 21) dX9_end_21 zc_i_1 ?_
    exact sm_zreturn (pc := 22) dX9_end_22 rfl
  · skip
    refine sm_iconst (pc := 14) dX9_end_14 zc_i_0 ?_
    exact sm_zreturn (pc := 15) dX9_end_15 rfl
noncomputable def f_X9_endt {d : Nat} : List zV → zH d → zP d → Bool := zfn 2 (b_X9_endt )
theorem m_X9_endt {d : Nat} : zMet (d := d) X_X9_end yX9_end 2 (f_X9_endt ) := zmet_mk (X := X_X9_end) (by decide) rfl rfl (fun P => s_X9_endt P)
