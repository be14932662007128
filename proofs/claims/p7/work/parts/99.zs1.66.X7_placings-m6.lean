section
/-! the class by summaries, by program -/
noncomputable def bX7_placingsa_63 {d : Nat} (self : List zV → zH d → zP d → Bool) (P : zP d) (r18 : zK d) : zK d := (xincR 5 1 r18)
set_option maxRecDepth 100000 in
set_option maxHeartbeats 4000000 in
theorem sbX7_placingsa_63 {d : Nat} [zGh] (n : Nat) (self : List zV → zH d → zP d → Bool) (hself : zMet X_X7_placings yX7_placings (1 + n) self) (P : zP d) (r18 : zK d) (hr18 : zSimJ 2 X_X7_placings (1 + (n + 1)) P 18 r18) : zSim X_X7_placings (1 + (n + 1)) P 63 (bX7_placingsa_63 self P r18) := by
  unfold bX7_placingsa_63
  refine sm_iincR (pc := 63) (n := 5) dX7_placings_63 zc_i_1 ?_
  refine sm_goto (pc := 66) (tgt := 18) dX7_placings_66 (by decide) ?_
  exact hr18.use
noncomputable def cX7_placingsa_53 {d : Nat} (self : List zV → zH d → zP d → Bool) (P : zP d) (j63 : zK d) : zK d := (xist 3 (xald 2 (xild 5 (xdup2 (xalQ 0 (xild 4 (xbin zaddR (xasQ 0 (fun v => v) j63))))))))
set_option maxRecDepth 100000 in
set_option maxHeartbeats 4000000 in
theorem scX7_placingsa_53 {d : Nat} [zGh] (n : Nat) (self : List zV → zH d → zP d → Bool) (hself : zMet X_X7_placings yX7_placings (1 + n) self) (P : zP d) (j63 : zK d) (hj63 : zSimJ 2 X_X7_placings (1 + (n + 1)) P 63 j63) : zSim X_X7_placings (1 + (n + 1)) P 53 (cX7_placingsa_53 self P j63) := by
  unfold cX7_placingsa_53
  refine sm_istore_n (pc := 53) (n := 3) dX7_placings_53 rfl ?_
  refine sm_aload_n (pc := 54) (n := 2) dX7_placings_54 rfl ?_
  refine sm_iload (pc := 55) (n := 5) dX7_placings_55 ?_
  refine sm_dup2 (pc := 57) dX7_placings_57 ?_
  refine sm_ialoadQ (pc := 58) dX7_placings_58 ?_
  refine sm_iload (pc := 59) (n := 4) dX7_placings_59 ?_
  refine sm_iaddR (pc := 61) dX7_placings_61 ?_
  refine sm_iastoreQ (pc := 62) dX7_placings_62 ?_
  exact hj63.use
noncomputable def lX7_placingsa_18 {d : Nat} (self : List zV → zH d → zP d → Bool) (P : zP d) (r18 : zK d) : zK d := (xild 5 (xald 2 (xlen (xcmpS tgeR rlGe rhS rlS rhLt (xild 3 (xiret P)) (xald 2 (xild 5 (xalQ 0 (xild 4 (xjoin (bX7_placingsa_63 self P r18) (fun j63 => (xcmpS tgeR rlGe rhS rlS rhLt (xald 2 (xild 5 (xdup2 (xalQ 0 (xild 4 (xbin zsubR (xasQ 0 (fun v => v) (xild 3 (xald 0 (xild 1 (xpI 1 (xbin zaddR (xald 2 (xcS 3 0 0 self (xbin zaddR (cX7_placingsa_53 self P j63)))))))))))))))) j63)))))))))))
set_option maxRecDepth 100000 in
set_option maxHeartbeats 4000000 in
theorem slX7_placingsa_18 {d : Nat} [zGh] (n : Nat) (self : List zV → zH d → zP d → Bool) (hself : zMet X_X7_placings yX7_placings (1 + n) self) (P : zP d) (r18 : zK d) (hr18 : zSimJ 2 X_X7_placings (1 + (n + 1)) P 18 r18) : zSim X_X7_placings (1 + (n + 1)) P 18 (lX7_placingsa_18 self P r18) := by
  unfold lX7_placingsa_18
  refine sm_iload (pc := 18) (n := 5) dX7_placings_18 ?_
  refine sm_aload_n (pc := 20) (n := 2) dX7_placings_20 rfl ?_
  refine sm_arraylength (pc := 21) dX7_placings_21 ?_
  refine sm_icmpS_ge (pc := 22) (tgt := 69) dX7_placings_22 (by decide) ?_ ?_
  · skip
    refine sm_iload_n (pc := 69) (n := 3) dX7_placings_69 rfl ?_
    exact sm_ireturn (pc := 70) dX7_placings_70 rfl
  · skip
    refine sm_aload_n (pc := 25) (n := 2) dX7_placings_25 rfl ?_
    refine sm_iload (pc := 26) (n := 5) dX7_placings_26 ?_
    refine sm_ialoadQ (pc := 28) dX7_placings_28 ?_
    refine sm_iload (pc := 29) (n := 4) dX7_placings_29 ?_
    refine sm_joinJ (pc := 31) (pc' := 63) (j := 2) (fun G0 hG0 => @sbX7_placingsa_63 d G0 n self hself P r18 (hr18.mv hG0 (by decide))) (fun j63 hj63 => ?_)
    refine sm_icmpS_lt (pc := 31) (tgt := 63) dX7_placings_31 (by decide) ?_ ?_
    · skip
      exact hj63.use
    · skip
      refine sm_aload_n (pc := 34) (n := 2) dX7_placings_34 rfl ?_
      refine sm_iload (pc := 35) (n := 5) dX7_placings_35 ?_
      refine sm_dup2 (pc := 37) dX7_placings_37 ?_
      refine sm_ialoadQ (pc := 38) dX7_placings_38 ?_
      refine sm_iload (pc := 39) (n := 4) dX7_placings_39 ?_
      refine sm_isubR (pc := 41) dX7_placings_41 ?_
      refine sm_iastoreQ (pc := 42) dX7_placings_42 ?_
      refine sm_iload_n (pc := 43) (n := 3) dX7_placings_43 rfl ?_
      refine sm_aload_n (pc := 44) (n := 0) dX7_placings_44 rfl ?_
      refine sm_iload_n (pc := 45) (n := 1) dX7_placings_45 rfl ?_
      refine sm_iconst (pc := 46) dX7_placings_46 zc_i_1 ?_
      refine sm_iaddR (pc := 47) dX7_placings_47 ?_
      refine sm_aload_n (pc := 48) (n := 2) dX7_placings_48 rfl ?_
      refine sm_cS (pc := 49) (n := 3) (mc := 0) (ms := 0) hself (cr_X7_129 (X := X_X7_placings) (fr := 1 + (n + 1)) (frc := 1 + n) (pc := 49) (mc := 0) (ms := 0) rfl (by omega) dX7_placings_49) ?_
      refine sm_iaddR (pc := 52) dX7_placings_52 ?_
      exact scX7_placingsa_53 n self hself P j63 hj63
noncomputable def b_X7_placingsa {d : Nat} (self : List zV → zH d → zP d → Bool) (P : zP d) : zK d := (xild 1 (xald 0 (xlen (xcmpS tgeR rlGe rhS rlS rhLt (xpI 1 (xiret P)) (xpI 0 (xist 3 (xald 0 (xild 1 (xalQ 0 (xist 4 (xpI 0 (xist 5 (xlp 5 1 (hsA 2 []) (wkL 3 4294967296 wkE) (fun r18 => (lX7_placingsa_18 self P r18)))))))))))))))
set_option maxRecDepth 100000 in
set_option maxHeartbeats 4000000 in
theorem s_X7_placingsa {d : Nat} [zGh] (n : Nat) (self : List zV → zH d → zP d → Bool) (hself : zMet X_X7_placings yX7_placings (1 + n) self) (P : zP d) : zSim X_X7_placings (1 + (n + 1)) P 0 (b_X7_placingsa self P) := by
  unfold b_X7_placingsa
  refine sm_iload_n (pc := 0) (n := 1) dX7_placings_0 rfl ?_
  refine sm_aload_n (pc := 1) (n := 0) dX7_placings_1 rfl ?_
  refine sm_arraylength (pc := 2) dX7_placings_2 ?_
  refine sm_icmpS_lt (pc := 3) (tgt := 8) dX7_placings_3 (by decide) ?_ ?_
  · skip
    refine sm_iconst (pc := 8) dX7_placings_8 zc_i_0 ?_
    refine sm_istore_n (pc := 9) (n := 3) dX7_placings_9 rfl ?_
    refine sm_aload_n (pc := 10) (n := 0) dX7_placings_10 rfl ?_
    refine sm_iload_n (pc := 11) (n := 1) dX7_placings_11 rfl ?_
    refine sm_ialoadQ (pc := 12) dX7_placings_12 ?_
    refine sm_istore (pc := 13) (n := 4) dX7_placings_13 ?_
    refine sm_iconst (pc := 15) dX7_placings_15 zc_i_0 ?_
    refine sm_istore (pc := 16) (n := 5) dX7_placings_16 ?_
    exact sm_lp (i := 5) (j := 1) (by decide) (by decide) hsA_ok (wkL_ok wkE_ok) (fun G1 hG1 r18 hr18 => @slX7_placingsa_18 d G1 n self hself P r18 hr18)
  · skip
    refine sm_iconst (pc := 6) dX7_placings_6 zc_i_1 ?_
    exact sm_ireturn (pc := 7) dX7_placings_7 rfl
theorem mr_X7_placingsa {d : Nat} {mc ms : Nat} {r0 : zV} (Es : List (zEn d)) (hg : zgdR mc ms r0 (fun f => zfn 6 (b_X7_placingsa f)) Es = true) (n : Nat) (hn : Es.length ≤ n) : zMet X_X7_placings yX7_placings (1 + n) (zselfR mc ms r0 Es) := zMet_rc (X := X_X7_placings) (by decide) rfl rfl (fun n f hf _ P => s_X7_placingsa n f hf P) Es hg n hn

noncomputable def e_X7_placings_0_0 : zH 1 := (show zT 1 from ((0, 1, 1), (0, 1, 0x100000000)), (2, (0, 0)))
noncomputable def e_X7_placings_0_1 : zH 1 := (show zT 1 from ((0, 1, 1), (0, 1, 0x100000000)), (2, (0, 0)))
noncomputable abbrev es_X7_placings_0 : List (zEn 1) := [([zR 1, zI 0, zR 2], e_X7_placings_0_0), ([zR 1, zI 1, zR 2], e_X7_placings_0_1)]
theorem we_X7_placings_0 : zgdR 0 0 (zI 4294967296) (fun f => zfn 6 (b_X7_placingsa f)) es_X7_placings_0 = true := by decide +kernel
theorem ev_X7_placings_0 : zselfR 0 0 (zI 4294967296) es_X7_placings_0 [zR 1, zI 0, zR 2] e_X7_placings_0_0 (zrk (zI 4294967296) e_X7_placings_0_0) = true := by decide +kernel
noncomputable def g_X7_placings_0 {d : Nat} : List zV → zH d → zP d → Bool := zsmy [(0, 0), (0, 2)] [zR 1, zI 0, zR 2] e_X7_placings_0_0 (zI 4294967296) e_X7_placings_0_0
theorem mg_X7_placings_0 {d : Nat} : zMet (d := d) X_X7_placings yX7_placings 9 g_X7_placings_0 := zMet_sm (mr_X7_placingsa es_X7_placings_0 we_X7_placings_0 8 (by decide)) ev_X7_placings_0
noncomputable def e_X7_placings_1_0 : zH 1 := (show zT 1 from ((0, 1, 2), (0, 1, 0x100000000)), (2, (0, 0)))
noncomputable def e_X7_placings_1_1 : zH 1 := (show zT 1 from ((0, 1, 2), (0, 1, 0x100000000)), (2, (0, 0)))
noncomputable abbrev es_X7_placings_1 : List (zEn 1) := [([zR 1, zI 0, zR 2], e_X7_placings_1_0), ([zR 1, zI 1, zR 2], e_X7_placings_1_1)]
theorem we_X7_placings_1 : zgdR 0 0 (zI 4294967296) (fun f => zfn 6 (b_X7_placingsa f)) es_X7_placings_1 = true := by decide +kernel
theorem ev_X7_placings_1 : zselfR 0 0 (zI 4294967296) es_X7_placings_1 [zR 1, zI 0, zR 2] e_X7_placings_1_0 (zrk (zI 4294967296) e_X7_placings_1_0) = true := by decide +kernel
noncomputable def g_X7_placings_1 {d : Nat} : List zV → zH d → zP d → Bool := zsmy [(0, 0), (0, 2)] [zR 1, zI 0, zR 2] e_X7_placings_1_0 (zI 4294967296) e_X7_placings_1_0
theorem mg_X7_placings_1 {d : Nat} : zMet (d := d) X_X7_placings yX7_placings 9 g_X7_placings_1 := zMet_sm (mr_X7_placingsa es_X7_placings_1 we_X7_placings_1 8 (by decide)) ev_X7_placings_1
noncomputable def e_X7_placings_2_0 : zH 1 := (show zT 1 from ((0, 2, 0x10000000001), (0, 1, 0x100000000)), (2, (0, 0)))
noncomputable def e_X7_placings_2_1 : zH 1 := (show zT 1 from ((0, 2, 0x10000000001), (0, 1, 0x100000000)), (2, (0, 0)))
noncomputable def e_X7_placings_2_2 : zH 1 := (show zT 1 from ((0, 2, 0x10000000001), (0, 1, 0x100000000)), (2, (0, 0)))
noncomputable abbrev es_X7_placings_2 : List (zEn 1) := [([zR 1, zI 0, zR 2], e_X7_placings_2_0), ([zR 1, zI 1, zR 2], e_X7_placings_2_1), ([zR 1, zI 2, zR 2], e_X7_placings_2_2)]
theorem we_X7_placings_2 : zgdR 0 0 (zI 4294967296) (fun f => zfn 6 (b_X7_placingsa f)) es_X7_placings_2 = true := by decide +kernel
theorem ev_X7_placings_2 : zselfR 0 0 (zI 4294967296) es_X7_placings_2 [zR 1, zI 0, zR 2] e_X7_placings_2_0 (zrk (zI 4294967296) e_X7_placings_2_0) = true := by decide +kernel
noncomputable def g_X7_placings_2 {d : Nat} : List zV → zH d → zP d → Bool := zsmy [(0, 0), (0, 2)] [zR 1, zI 0, zR 2] e_X7_placings_2_0 (zI 4294967296) e_X7_placings_2_0
theorem mg_X7_placings_2 {d : Nat} : zMet (d := d) X_X7_placings yX7_placings 9 g_X7_placings_2 := zMet_sm (mr_X7_placingsa es_X7_placings_2 we_X7_placings_2 8 (by decide)) ev_X7_placings_2
noncomputable def e_X7_placings_3_0 : zH 1 := (show zT 1 from ((0, 1, 2), (0, 2, 0x1000000000100000000)), (2, (0, 0)))
noncomputable def e_X7_placings_3_1 : zH 1 := (show zT 1 from ((0, 1, 2), (0, 2, 0x1000000000100000000)), (2, (0, 0)))
noncomputable abbrev es_X7_placings_3 : List (zEn 1) := [([zR 1, zI 0, zR 2], e_X7_placings_3_0), ([zR 1, zI 1, zR 2], e_X7_placings_3_1)]
theorem we_X7_placings_3 : zgdR 0 0 (zI 4294967296) (fun f => zfn 6 (b_X7_placingsa f)) es_X7_placings_3 = true := by decide +kernel
theorem ev_X7_placings_3 : zselfR 0 0 (zI 4294967296) es_X7_placings_3 [zR 1, zI 0, zR 2] e_X7_placings_3_0 (zrk (zI 4294967296) e_X7_placings_3_0) = true := by decide +kernel
noncomputable def g_X7_placings_3 {d : Nat} : List zV → zH d → zP d → Bool := zsmy [(0, 0), (0, 2)] [zR 1, zI 0, zR 2] e_X7_placings_3_0 (zI 4294967296) e_X7_placings_3_0
theorem mg_X7_placings_3 {d : Nat} : zMet (d := d) X_X7_placings yX7_placings 9 g_X7_placings_3 := zMet_sm (mr_X7_placingsa es_X7_placings_3 we_X7_placings_3 8 (by decide)) ev_X7_placings_3
noncomputable def e_X7_placings_4_0 : zH 1 := (show zT 1 from ((0, 2, 0x10000000001), (0, 2, 0x1000000000100000000)), (2, (0, 0)))
noncomputable def e_X7_placings_4_1 : zH 1 := (show zT 1 from ((0, 2, 0x10000000001), (0, 2, 0x1000000000100000000)), (2, (0, 0)))
noncomputable def e_X7_placings_4_2 : zH 1 := (show zT 1 from ((0, 2, 0x10000000001), (0, 2, 0x1000000000100000000)), (2, (0, 0)))
noncomputable abbrev es_X7_placings_4 : List (zEn 1) := [([zR 1, zI 0, zR 2], e_X7_placings_4_0), ([zR 1, zI 1, zR 2], e_X7_placings_4_1), ([zR 1, zI 2, zR 2], e_X7_placings_4_2)]
theorem we_X7_placings_4 : zgdR 0 0 (zI 4294967296) (fun f => zfn 6 (b_X7_placingsa f)) es_X7_placings_4 = true := by decide +kernel
theorem ev_X7_placings_4 : zselfR 0 0 (zI 4294967296) es_X7_placings_4 [zR 1, zI 0, zR 2] e_X7_placings_4_0 (zrk (zI 4294967296) e_X7_placings_4_0) = true := by decide +kernel
noncomputable def g_X7_placings_4 {d : Nat} : List zV → zH d → zP d → Bool := zsmy [(0, 0), (0, 2)] [zR 1, zI 0, zR 2] e_X7_placings_4_0 (zI 4294967296) e_X7_placings_4_0
theorem mg_X7_placings_4 {d : Nat} : zMet (d := d) X_X7_placings yX7_placings 9 g_X7_placings_4 := zMet_sm (mr_X7_placingsa es_X7_placings_4 we_X7_placings_4 8 (by decide)) ev_X7_placings_4
noncomputable def e_X7_placings_5_0 : zH 1 := (show zT 1 from ((0, 1, 3), (0, 1, 0x100000000)), (2, (0, 0)))
noncomputable def e_X7_placings_5_1 : zH 1 := (show zT 1 from ((0, 1, 3), (0, 1, 0x100000000)), (2, (0, 0)))
noncomputable abbrev es_X7_placings_5 : List (zEn 1) := [([zR 1, zI 0, zR 2], e_X7_placings_5_0), ([zR 1, zI 1, zR 2], e_X7_placings_5_1)]
theorem we_X7_placings_5 : zgdR 0 0 (zI 4294967296) (fun f => zfn 6 (b_X7_placingsa f)) es_X7_placings_5 = true := by decide +kernel
theorem ev_X7_placings_5 : zselfR 0 0 (zI 4294967296) es_X7_placings_5 [zR 1, zI 0, zR 2] e_X7_placings_5_0 (zrk (zI 4294967296) e_X7_placings_5_0) = true := by decide +kernel
noncomputable def g_X7_placings_5 {d : Nat} : List zV → zH d → zP d → Bool := zsmy [(0, 0), (0, 2)] [zR 1, zI 0, zR 2] e_X7_placings_5_0 (zI 4294967296) e_X7_placings_5_0
theorem mg_X7_placings_5 {d : Nat} : zMet (d := d) X_X7_placings yX7_placings 9 g_X7_placings_5 := zMet_sm (mr_X7_placingsa es_X7_placings_5 we_X7_placings_5 8 (by decide)) ev_X7_placings_5
noncomputable def e_X7_placings_6_0 : zH 1 := (show zT 1 from ((0, 2, 0x10000000002), (0, 1, 0x100000000)), (2, (0, 0)))
noncomputable def e_X7_placings_6_1 : zH 1 := (show zT 1 from ((0, 2, 0x10000000002), (0, 1, 0x100000000)), (2, (0, 0)))
noncomputable def e_X7_placings_6_2 : zH 1 := (show zT 1 from ((0, 2, 0x10000000002), (0, 1, 0x100000000)), (2, (0, 0)))
noncomputable abbrev es_X7_placings_6 : List (zEn 1) := [([zR 1, zI 0, zR 2], e_X7_placings_6_0), ([zR 1, zI 1, zR 2], e_X7_placings_6_1), ([zR 1, zI 2, zR 2], e_X7_placings_6_2)]
theorem we_X7_placings_6 : zgdR 0 0 (zI 4294967296) (fun f => zfn 6 (b_X7_placingsa f)) es_X7_placings_6 = true := by decide +kernel
theorem ev_X7_placings_6 : zselfR 0 0 (zI 4294967296) es_X7_placings_6 [zR 1, zI 0, zR 2] e_X7_placings_6_0 (zrk (zI 4294967296) e_X7_placings_6_0) = true := by decide +kernel
noncomputable def g_X7_placings_6 {d : Nat} : List zV → zH d → zP d → Bool := zsmy [(0, 0), (0, 2)] [zR 1, zI 0, zR 2] e_X7_placings_6_0 (zI 4294967296) e_X7_placings_6_0
theorem mg_X7_placings_6 {d : Nat} : zMet (d := d) X_X7_placings yX7_placings 9 g_X7_placings_6 := zMet_sm (mr_X7_placingsa es_X7_placings_6 we_X7_placings_6 8 (by decide)) ev_X7_placings_6
noncomputable def e_X7_placings_7_0 : zH 1 := (show zT 1 from ((0, 3, 0x100000000010000000001), (0, 1, 0x100000000)), (2, (0, 0)))
noncomputable def e_X7_placings_7_1 : zH 1 := (show zT 1 from ((0, 3, 0x100000000010000000001), (0, 1, 0x100000000)), (2, (0, 0)))
noncomputable def e_X7_placings_7_2 : zH 1 := (show zT 1 from ((0, 3, 0x100000000010000000001), (0, 1, 0x100000000)), (2, (0, 0)))
noncomputable def e_X7_placings_7_3 : zH 1 := (show zT 1 from ((0, 3, 0x100000000010000000001), (0, 1, 0x100000000)), (2, (0, 0)))
noncomputable abbrev es_X7_placings_7 : List (zEn 1) := [([zR 1, zI 0, zR 2], e_X7_placings_7_0), ([zR 1, zI 1, zR 2], e_X7_placings_7_1), ([zR 1, zI 2, zR 2], e_X7_placings_7_2), ([zR 1, zI 3, zR 2], e_X7_placings_7_3)]
theorem we_X7_placings_7 : zgdR 0 0 (zI 4294967296) (fun f => zfn 6 (b_X7_placingsa f)) es_X7_placings_7 = true := by decide +kernel
theorem ev_X7_placings_7 : zselfR 0 0 (zI 4294967296) es_X7_placings_7 [zR 1, zI 0, zR 2] e_X7_placings_7_0 (zrk (zI 4294967296) e_X7_placings_7_0) = true := by decide +kernel
noncomputable def g_X7_placings_7 {d : Nat} : List zV → zH d → zP d → Bool := zsmy [(0, 0), (0, 2)] [zR 1, zI 0, zR 2] e_X7_placings_7_0 (zI 4294967296) e_X7_placings_7_0
theorem mg_X7_placings_7 {d : Nat} : zMet (d := d) X_X7_placings yX7_placings 9 g_X7_placings_7 := zMet_sm (mr_X7_placingsa es_X7_placings_7 we_X7_placings_7 8 (by decide)) ev_X7_placings_7
noncomputable def e_X7_placings_8_0 : zH 1 := (show zT 1 from ((0, 1, 3), (0, 2, 0x1000000000100000000)), (2, (0, 0)))
noncomputable def e_X7_placings_8_1 : zH 1 := (show zT 1 from ((0, 1, 3), (0, 2, 0x1000000000100000000)), (2, (0, 0)))
noncomputable abbrev es_X7_placings_8 : List (zEn 1) := [([zR 1, zI 0, zR 2], e_X7_placings_8_0), ([zR 1, zI 1, zR 2], e_X7_placings_8_1)]
theorem we_X7_placings_8 : zgdR 0 0 (zI 4294967296) (fun f => zfn 6 (b_X7_placingsa f)) es_X7_placings_8 = true := by decide +kernel
theorem ev_X7_placings_8 : zselfR 0 0 (zI 4294967296) es_X7_placings_8 [zR 1, zI 0, zR 2] e_X7_placings_8_0 (zrk (zI 4294967296) e_X7_placings_8_0) = true := by decide +kernel
noncomputable def g_X7_placings_8 {d : Nat} : List zV → zH d → zP d → Bool := zsmy [(0, 0), (0, 2)] [zR 1, zI 0, zR 2] e_X7_placings_8_0 (zI 4294967296) e_X7_placings_8_0
theorem mg_X7_placings_8 {d : Nat} : zMet (d := d) X_X7_placings yX7_placings 9 g_X7_placings_8 := zMet_sm (mr_X7_placingsa es_X7_placings_8 we_X7_placings_8 8 (by decide)) ev_X7_placings_8
noncomputable def e_X7_placings_9_0 : zH 1 := (show zT 1 from ((0, 2, 0x10000000002), (0, 2, 0x1000000000100000000)), (2, (0, 0)))
noncomputable def e_X7_placings_9_1 : zH 1 := (show zT 1 from ((0, 2, 0x10000000002), (0, 2, 0x1000000000100000000)), (2, (0, 0)))
noncomputable def e_X7_placings_9_2 : zH 1 := (show zT 1 from ((0, 2, 0x10000000002), (0, 2, 0x1000000000100000000)), (2, (0, 0)))
noncomputable abbrev es_X7_placings_9 : List (zEn 1) := [([zR 1, zI 0, zR 2], e_X7_placings_9_0), ([zR 1, zI 1, zR 2], e_X7_placings_9_1), ([zR 1, zI 2, zR 2], e_X7_placings_9_2)]
theorem we_X7_placings_9 : zgdR 0 0 (zI 4294967296) (fun f => zfn 6 (b_X7_placingsa f)) es_X7_placings_9 = true := by decide +kernel
theorem ev_X7_placings_9 : zselfR 0 0 (zI 4294967296) es_X7_placings_9 [zR 1, zI 0, zR 2] e_X7_placings_9_0 (zrk (zI 4294967296) e_X7_placings_9_0) = true := by decide +kernel
noncomputable def g_X7_placings_9 {d : Nat} : List zV → zH d → zP d → Bool := zsmy [(0, 0), (0, 2)] [zR 1, zI 0, zR 2] e_X7_placings_9_0 (zI 4294967296) e_X7_placings_9_0
theorem mg_X7_placings_9 {d : Nat} : zMet (d := d) X_X7_placings yX7_placings 9 g_X7_placings_9 := zMet_sm (mr_X7_placingsa es_X7_placings_9 we_X7_placings_9 8 (by decide)) ev_X7_placings_9
noncomputable def e_X7_placings_10_0 : zH 1 := (show zT 1 from ((0, 3, 0x100000000010000000001), (0, 2, 0x1000000000100000000)), (2, (0, 0)))
noncomputable def e_X7_placings_10_1 : zH 1 := (show zT 1 from ((0, 3, 0x100000000010000000001), (0, 2, 0x1000000000100000000)), (2, (0, 0)))
noncomputable def e_X7_placings_10_2 : zH 1 := (show zT 1 from ((0, 3, 0x100000000010000000001), (0, 2, 0x1000000000100000000)), (2, (0, 0)))
noncomputable def e_X7_placings_10_3 : zH 1 := (show zT 1 from ((0, 3, 0x100000000010000000001), (0, 2, 0x1000000000100000000)), (2, (0, 0)))
noncomputable abbrev es_X7_placings_10 : List (zEn 1) := [([zR 1, zI 0, zR 2], e_X7_placings_10_0), ([zR 1, zI 1, zR 2], e_X7_placings_10_1), ([zR 1, zI 2, zR 2], e_X7_placings_10_2), ([zR 1, zI 3, zR 2], e_X7_placings_10_3)]
theorem we_X7_placings_10 : zgdR 0 0 (zI 4294967296) (fun f => zfn 6 (b_X7_placingsa f)) es_X7_placings_10 = true := by decide +kernel
theorem ev_X7_placings_10 : zselfR 0 0 (zI 4294967296) es_X7_placings_10 [zR 1, zI 0, zR 2] e_X7_placings_10_0 (zrk (zI 4294967296) e_X7_placings_10_0) = true := by decide +kernel
noncomputable def g_X7_placings_10 {d : Nat} : List zV → zH d → zP d → Bool := zsmy [(0, 0), (0, 2)] [zR 1, zI 0, zR 2] e_X7_placings_10_0 (zI 4294967296) e_X7_placings_10_0
theorem mg_X7_placings_10 {d : Nat} : zMet (d := d) X_X7_placings yX7_placings 9 g_X7_placings_10 := zMet_sm (mr_X7_placingsa es_X7_placings_10 we_X7_placings_10 8 (by decide)) ev_X7_placings_10
noncomputable def e_X7_placings_11_0 : zH 1 := (show zT 1 from ((0, 1, 3), (0, 3, 0x10000000001000000000100000000)), (2, (0, 0)))
noncomputable def e_X7_placings_11_1 : zH 1 := (show zT 1 from ((0, 1, 3), (0, 3, 0x10000000001000000000100000000)), (2, (0, 0)))
noncomputable abbrev es_X7_placings_11 : List (zEn 1) := [([zR 1, zI 0, zR 2], e_X7_placings_11_0), ([zR 1, zI 1, zR 2], e_X7_placings_11_1)]
theorem we_X7_placings_11 : zgdR 0 0 (zI 4294967296) (fun f => zfn 6 (b_X7_placingsa f)) es_X7_placings_11 = true := by decide +kernel
theorem ev_X7_placings_11 : zselfR 0 0 (zI 4294967296) es_X7_placings_11 [zR 1, zI 0, zR 2] e_X7_placings_11_0 (zrk (zI 4294967296) e_X7_placings_11_0) = true := by decide +kernel
noncomputable def g_X7_placings_11 {d : Nat} : List zV → zH d → zP d → Bool := zsmy [(0, 0), (0, 2)] [zR 1, zI 0, zR 2] e_X7_placings_11_0 (zI 4294967296) e_X7_placings_11_0
theorem mg_X7_placings_11 {d : Nat} : zMet (d := d) X_X7_placings yX7_placings 9 g_X7_placings_11 := zMet_sm (mr_X7_placingsa es_X7_placings_11 we_X7_placings_11 8 (by decide)) ev_X7_placings_11
noncomputable def e_X7_placings_12_0 : zH 1 := (show zT 1 from ((0, 2, 0x10000000002), (0, 3, 0x10000000001000000000100000000)), (2, (0, 0)))
noncomputable def e_X7_placings_12_1 : zH 1 := (show zT 1 from ((0, 2, 0x10000000002), (0, 3, 0x10000000001000000000100000000)), (2, (0, 0)))
noncomputable def e_X7_placings_12_2 : zH 1 := (show zT 1 from ((0, 2, 0x10000000002), (0, 3, 0x10000000001000000000100000000)), (2, (0, 0)))
noncomputable abbrev es_X7_placings_12 : List (zEn 1) := [([zR 1, zI 0, zR 2], e_X7_placings_12_0), ([zR 1, zI 1, zR 2], e_X7_placings_12_1), ([zR 1, zI 2, zR 2], e_X7_placings_12_2)]
theorem we_X7_placings_12 : zgdR 0 0 (zI 4294967296) (fun f => zfn 6 (b_X7_placingsa f)) es_X7_placings_12 = true := by decide +kernel
theorem ev_X7_placings_12 : zselfR 0 0 (zI 4294967296) es_X7_placings_12 [zR 1, zI 0, zR 2] e_X7_placings_12_0 (zrk (zI 4294967296) e_X7_placings_12_0) = true := by decide +kernel
noncomputable def g_X7_placings_12 {d : Nat} : List zV → zH d → zP d → Bool := zsmy [(0, 0), (0, 2)] [zR 1, zI 0, zR 2] e_X7_placings_12_0 (zI 4294967296) e_X7_placings_12_0
theorem mg_X7_placings_12 {d : Nat} : zMet (d := d) X_X7_placings yX7_placings 9 g_X7_placings_12 := zMet_sm (mr_X7_placingsa es_X7_placings_12 we_X7_placings_12 8 (by decide)) ev_X7_placings_12
noncomputable def e_X7_placings_13_0 : zH 1 := (show zT 1 from ((0, 3, 0x100000000010000000001), (0, 3, 0x10000000001000000000100000000)), (2, (0, 0)))
noncomputable def e_X7_placings_13_1 : zH 1 := (show zT 1 from ((0, 3, 0x100000000010000000001), (0, 3, 0x10000000001000000000100000000)), (2, (0, 0)))
noncomputable def e_X7_placings_13_2 : zH 1 := (show zT 1 from ((0, 3, 0x100000000010000000001), (0, 3, 0x10000000001000000000100000000)), (2, (0, 0)))
noncomputable def e_X7_placings_13_3 : zH 1 := (show zT 1 from ((0, 3, 0x100000000010000000001), (0, 3, 0x10000000001000000000100000000)), (2, (0, 0)))
noncomputable abbrev es_X7_placings_13 : List (zEn 1) := [([zR 1, zI 0, zR 2], e_X7_placings_13_0), ([zR 1, zI 1, zR 2], e_X7_placings_13_1), ([zR 1, zI 2, zR 2], e_X7_placings_13_2), ([zR 1, zI 3, zR 2], e_X7_placings_13_3)]
theorem we_X7_placings_13 : zgdR 0 0 (zI 4294967296) (fun f => zfn 6 (b_X7_placingsa f)) es_X7_placings_13 = true := by decide +kernel
theorem ev_X7_placings_13 : zselfR 0 0 (zI 4294967296) es_X7_placings_13 [zR 1, zI 0, zR 2] e_X7_placings_13_0 (zrk (zI 4294967296) e_X7_placings_13_0) = true := by decide +kernel
noncomputable def g_X7_placings_13 {d : Nat} : List zV → zH d → zP d → Bool := zsmy [(0, 0), (0, 2)] [zR 1, zI 0, zR 2] e_X7_placings_13_0 (zI 4294967296) e_X7_placings_13_0
theorem mg_X7_placings_13 {d : Nat} : zMet (d := d) X_X7_placings yX7_placings 9 g_X7_placings_13 := zMet_sm (mr_X7_placingsa es_X7_placings_13 we_X7_placings_13 8 (by decide)) ev_X7_placings_13
noncomputable def e_X7_placings_14_0 : zH 1 := (show zT 1 from ((0, 1, 4), (0, 1, 0x100000000)), (2, (0, 0)))
noncomputable def e_X7_placings_14_1 : zH 1 := (show zT 1 from ((0, 1, 4), (0, 1, 0x100000000)), (2, (0, 0)))
noncomputable abbrev es_X7_placings_14 : List (zEn 1) := [([zR 1, zI 0, zR 2], e_X7_placings_14_0), ([zR 1, zI 1, zR 2], e_X7_placings_14_1)]
theorem we_X7_placings_14 : zgdR 0 0 (zI 4294967296) (fun f => zfn 6 (b_X7_placingsa f)) es_X7_placings_14 = true := by decide +kernel
theorem ev_X7_placings_14 : zselfR 0 0 (zI 4294967296) es_X7_placings_14 [zR 1, zI 0, zR 2] e_X7_placings_14_0 (zrk (zI 4294967296) e_X7_placings_14_0) = true := by decide +kernel
noncomputable def g_X7_placings_14 {d : Nat} : List zV → zH d → zP d → Bool := zsmy [(0, 0), (0, 2)] [zR 1, zI 0, zR 2] e_X7_placings_14_0 (zI 4294967296) e_X7_placings_14_0
theorem mg_X7_placings_14 {d : Nat} : zMet (d := d) X_X7_placings yX7_placings 9 g_X7_placings_14 := zMet_sm (mr_X7_placingsa es_X7_placings_14 we_X7_placings_14 8 (by decide)) ev_X7_placings_14
noncomputable def e_X7_placings_15_0 : zH 1 := (show zT 1 from ((0, 2, 0x10000000003), (0, 1, 0x100000000)), (2, (0, 0)))
noncomputable def e_X7_placings_15_1 : zH 1 := (show zT 1 from ((0, 2, 0x10000000003), (0, 1, 0x100000000)), (2, (0, 0)))
noncomputable def e_X7_placings_15_2 : zH 1 := (show zT 1 from ((0, 2, 0x10000000003), (0, 1, 0x100000000)), (2, (0, 0)))
noncomputable abbrev es_X7_placings_15 : List (zEn 1) := [([zR 1, zI 0, zR 2], e_X7_placings_15_0), ([zR 1, zI 1, zR 2], e_X7_placings_15_1), ([zR 1, zI 2, zR 2], e_X7_placings_15_2)]
theorem we_X7_placings_15 : zgdR 0 0 (zI 4294967296) (fun f => zfn 6 (b_X7_placingsa f)) es_X7_placings_15 = true := by decide +kernel
theorem ev_X7_placings_15 : zselfR 0 0 (zI 4294967296) es_X7_placings_15 [zR 1, zI 0, zR 2] e_X7_placings_15_0 (zrk (zI 4294967296) e_X7_placings_15_0) = true := by decide +kernel
noncomputable def g_X7_placings_15 {d : Nat} : List zV → zH d → zP d → Bool := zsmy [(0, 0), (0, 2)] [zR 1, zI 0, zR 2] e_X7_placings_15_0 (zI 4294967296) e_X7_placings_15_0
theorem mg_X7_placings_15 {d : Nat} : zMet (d := d) X_X7_placings yX7_placings 9 g_X7_placings_15 := zMet_sm (mr_X7_placingsa es_X7_placings_15 we_X7_placings_15 8 (by decide)) ev_X7_placings_15
noncomputable def e_X7_placings_16_0 : zH 1 := (show zT 1 from ((0, 2, 0x20000000002), (0, 1, 0x100000000)), (2, (0, 0)))
noncomputable def e_X7_placings_16_1 : zH 1 := (show zT 1 from ((0, 2, 0x20000000002), (0, 1, 0x100000000)), (2, (0, 0)))
noncomputable def e_X7_placings_16_2 : zH 1 := (show zT 1 from ((0, 2, 0x20000000002), (0, 1, 0x100000000)), (2, (0, 0)))
noncomputable abbrev es_X7_placings_16 : List (zEn 1) := [([zR 1, zI 0, zR 2], e_X7_placings_16_0), ([zR 1, zI 1, zR 2], e_X7_placings_16_1), ([zR 1, zI 2, zR 2], e_X7_placings_16_2)]
theorem we_X7_placings_16 : zgdR 0 0 (zI 4294967296) (fun f => zfn 6 (b_X7_placingsa f)) es_X7_placings_16 = true := by decide +kernel
theorem ev_X7_placings_16 : zselfR 0 0 (zI 4294967296) es_X7_placings_16 [zR 1, zI 0, zR 2] e_X7_placings_16_0 (zrk (zI 4294967296) e_X7_placings_16_0) = true := by decide +kernel
noncomputable def g_X7_placings_16 {d : Nat} : List zV → zH d → zP d → Bool := zsmy [(0, 0), (0, 2)] [zR 1, zI 0, zR 2] e_X7_placings_16_0 (zI 4294967296) e_X7_placings_16_0
theorem mg_X7_placings_16 {d : Nat} : zMet (d := d) X_X7_placings yX7_placings 9 g_X7_placings_16 := zMet_sm (mr_X7_placingsa es_X7_placings_16 we_X7_placings_16 8 (by decide)) ev_X7_placings_16
noncomputable def e_X7_placings_17_0 : zH 1 := (show zT 1 from ((0, 3, 0x100000000010000000002), (0, 1, 0x100000000)), (2, (0, 0)))
noncomputable def e_X7_placings_17_1 : zH 1 := (show zT 1 from ((0, 3, 0x100000000010000000002), (0, 1, 0x100000000)), (2, (0, 0)))
noncomputable def e_X7_placings_17_2 : zH 1 := (show zT 1 from ((0, 3, 0x100000000010000000002), (0, 1, 0x100000000)), (2, (0, 0)))
noncomputable def e_X7_placings_17_3 : zH 1 := (show zT 1 from ((0, 3, 0x100000000010000000002), (0, 1, 0x100000000)), (2, (0, 0)))
noncomputable abbrev es_X7_placings_17 : List (zEn 1) := [([zR 1, zI 0, zR 2], e_X7_placings_17_0), ([zR 1, zI 1, zR 2], e_X7_placings_17_1), ([zR 1, zI 2, zR 2], e_X7_placings_17_2), ([zR 1, zI 3, zR 2], e_X7_placings_17_3)]
theorem we_X7_placings_17 : zgdR 0 0 (zI 4294967296) (fun f => zfn 6 (b_X7_placingsa f)) es_X7_placings_17 = true := by decide +kernel
theorem ev_X7_placings_17 : zselfR 0 0 (zI 4294967296) es_X7_placings_17 [zR 1, zI 0, zR 2] e_X7_placings_17_0 (zrk (zI 4294967296) e_X7_placings_17_0) = true := by decide +kernel
noncomputable def g_X7_placings_17 {d : Nat} : List zV → zH d → zP d → Bool := zsmy [(0, 0), (0, 2)] [zR 1, zI 0, zR 2] e_X7_placings_17_0 (zI 4294967296) e_X7_placings_17_0
theorem mg_X7_placings_17 {d : Nat} : zMet (d := d) X_X7_placings yX7_placings 9 g_X7_placings_17 := zMet_sm (mr_X7_placingsa es_X7_placings_17 we_X7_placings_17 8 (by decide)) ev_X7_placings_17
noncomputable def e_X7_placings_18_0 : zH 1 := (show zT 1 from ((0, 4, 0x1000000000100000000010000000001), (0, 1, 0x100000000)), (2, (0, 0)))
noncomputable def e_X7_placings_18_1 : zH 1 := (show zT 1 from ((0, 4, 0x1000000000100000000010000000001), (0, 1, 0x100000000)), (2, (0, 0)))
noncomputable def e_X7_placings_18_2 : zH 1 := (show zT 1 from ((0, 4, 0x1000000000100000000010000000001), (0, 1, 0x100000000)), (2, (0, 0)))
noncomputable def e_X7_placings_18_3 : zH 1 := (show zT 1 from ((0, 4, 0x1000000000100000000010000000001), (0, 1, 0x100000000)), (2, (0, 0)))
noncomputable def e_X7_placings_18_4 : zH 1 := (show zT 1 from ((0, 4, 0x1000000000100000000010000000001), (0, 1, 0x100000000)), (2, (0, 0)))
noncomputable abbrev es_X7_placings_18 : List (zEn 1) := [([zR 1, zI 0, zR 2], e_X7_placings_18_0), ([zR 1, zI 1, zR 2], e_X7_placings_18_1), ([zR 1, zI 2, zR 2], e_X7_placings_18_2), ([zR 1, zI 3, zR 2], e_X7_placings_18_3), ([zR 1, zI 4, zR 2], e_X7_placings_18_4)]
theorem we_X7_placings_18 : zgdR 0 0 (zI 4294967296) (fun f => zfn 6 (b_X7_placingsa f)) es_X7_placings_18 = true := by decide +kernel
theorem ev_X7_placings_18 : zselfR 0 0 (zI 4294967296) es_X7_placings_18 [zR 1, zI 0, zR 2] e_X7_placings_18_0 (zrk (zI 4294967296) e_X7_placings_18_0) = true := by decide +kernel
noncomputable def g_X7_placings_18 {d : Nat} : List zV → zH d → zP d → Bool := zsmy [(0, 0), (0, 2)] [zR 1, zI 0, zR 2] e_X7_placings_18_0 (zI 4294967296) e_X7_placings_18_0
theorem mg_X7_placings_18 {d : Nat} : zMet (d := d) X_X7_placings yX7_placings 9 g_X7_placings_18 := zMet_sm (mr_X7_placingsa es_X7_placings_18 we_X7_placings_18 8 (by decide)) ev_X7_placings_18
noncomputable def e_X7_placings_19_0 : zH 1 := (show zT 1 from ((0, 1, 4), (0, 2, 0x1000000000100000000)), (2, (0, 0)))
noncomputable def e_X7_placings_19_1 : zH 1 := (show zT 1 from ((0, 1, 4), (0, 2, 0x1000000000100000000)), (2, (0, 0)))
noncomputable abbrev es_X7_placings_19 : List (zEn 1) := [([zR 1, zI 0, zR 2], e_X7_placings_19_0), ([zR 1, zI 1, zR 2], e_X7_placings_19_1)]
theorem we_X7_placings_19 : zgdR 0 0 (zI 4294967296) (fun f => zfn 6 (b_X7_placingsa f)) es_X7_placings_19 = true := by decide +kernel
theorem ev_X7_placings_19 : zselfR 0 0 (zI 4294967296) es_X7_placings_19 [zR 1, zI 0, zR 2] e_X7_placings_19_0 (zrk (zI 4294967296) e_X7_placings_19_0) = true := by decide +kernel
noncomputable def g_X7_placings_19 {d : Nat} : List zV → zH d → zP d → Bool := zsmy [(0, 0), (0, 2)] [zR 1, zI 0, zR 2] e_X7_placings_19_0 (zI 4294967296) e_X7_placings_19_0
theorem mg_X7_placings_19 {d : Nat} : zMet (d := d) X_X7_placings yX7_placings 9 g_X7_placings_19 := zMet_sm (mr_X7_placingsa es_X7_placings_19 we_X7_placings_19 8 (by decide)) ev_X7_placings_19
noncomputable def e_X7_placings_20_0 : zH 1 := (show zT 1 from ((0, 2, 0x10000000003), (0, 2, 0x1000000000100000000)), (2, (0, 0)))
noncomputable def e_X7_placings_20_1 : zH 1 := (show zT 1 from ((0, 2, 0x10000000003), (0, 2, 0x1000000000100000000)), (2, (0, 0)))
noncomputable def e_X7_placings_20_2 : zH 1 := (show zT 1 from ((0, 2, 0x10000000003), (0, 2, 0x1000000000100000000)), (2, (0, 0)))
noncomputable abbrev es_X7_placings_20 : List (zEn 1) := [([zR 1, zI 0, zR 2], e_X7_placings_20_0), ([zR 1, zI 1, zR 2], e_X7_placings_20_1), ([zR 1, zI 2, zR 2], e_X7_placings_20_2)]
theorem we_X7_placings_20 : zgdR 0 0 (zI 4294967296) (fun f => zfn 6 (b_X7_placingsa f)) es_X7_placings_20 = true := by decide +kernel
theorem ev_X7_placings_20 : zselfR 0 0 (zI 4294967296) es_X7_placings_20 [zR 1, zI 0, zR 2] e_X7_placings_20_0 (zrk (zI 4294967296) e_X7_placings_20_0) = true := by decide +kernel
noncomputable def g_X7_placings_20 {d : Nat} : List zV → zH d → zP d → Bool := zsmy [(0, 0), (0, 2)] [zR 1, zI 0, zR 2] e_X7_placings_20_0 (zI 4294967296) e_X7_placings_20_0
theorem mg_X7_placings_20 {d : Nat} : zMet (d := d) X_X7_placings yX7_placings 9 g_X7_placings_20 := zMet_sm (mr_X7_placingsa es_X7_placings_20 we_X7_placings_20 8 (by decide)) ev_X7_placings_20
noncomputable def e_X7_placings_21_0 : zH 1 := (show zT 1 from ((0, 2, 0x20000000002), (0, 2, 0x1000000000100000000)), (2, (0, 0)))
noncomputable def e_X7_placings_21_1 : zH 1 := (show zT 1 from ((0, 2, 0x20000000002), (0, 2, 0x1000000000100000000)), (2, (0, 0)))
noncomputable def e_X7_placings_21_2 : zH 1 := (show zT 1 from ((0, 2, 0x20000000002), (0, 2, 0x1000000000100000000)), (2, (0, 0)))
noncomputable abbrev es_X7_placings_21 : List (zEn 1) := [([zR 1, zI 0, zR 2], e_X7_placings_21_0), ([zR 1, zI 1, zR 2], e_X7_placings_21_1), ([zR 1, zI 2, zR 2], e_X7_placings_21_2)]
theorem we_X7_placings_21 : zgdR 0 0 (zI 4294967296) (fun f => zfn 6 (b_X7_placingsa f)) es_X7_placings_21 = true := by decide +kernel
theorem ev_X7_placings_21 : zselfR 0 0 (zI 4294967296) es_X7_placings_21 [zR 1, zI 0, zR 2] e_X7_placings_21_0 (zrk (zI 4294967296) e_X7_placings_21_0) = true := by decide +kernel
noncomputable def g_X7_placings_21 {d : Nat} : List zV → zH d → zP d → Bool := zsmy [(0, 0), (0, 2)] [zR 1, zI 0, zR 2] e_X7_placings_21_0 (zI 4294967296) e_X7_placings_21_0
theorem mg_X7_placings_21 {d : Nat} : zMet (d := d) X_X7_placings yX7_placings 9 g_X7_placings_21 := zMet_sm (mr_X7_placingsa es_X7_placings_21 we_X7_placings_21 8 (by decide)) ev_X7_placings_21
noncomputable def e_X7_placings_22_0 : zH 1 := (show zT 1 from ((0, 3, 0x100000000010000000002), (0, 2, 0x1000000000100000000)), (2, (0, 0)))
noncomputable def e_X7_placings_22_1 : zH 1 := (show zT 1 from ((0, 3, 0x100000000010000000002), (0, 2, 0x1000000000100000000)), (2, (0, 0)))
noncomputable def e_X7_placings_22_2 : zH 1 := (show zT 1 from ((0, 3, 0x100000000010000000002), (0, 2, 0x1000000000100000000)), (2, (0, 0)))
noncomputable def e_X7_placings_22_3 : zH 1 := (show zT 1 from ((0, 3, 0x100000000010000000002), (0, 2, 0x1000000000100000000)), (2, (0, 0)))
noncomputable abbrev es_X7_placings_22 : List (zEn 1) := [([zR 1, zI 0, zR 2], e_X7_placings_22_0), ([zR 1, zI 1, zR 2], e_X7_placings_22_1), ([zR 1, zI 2, zR 2], e_X7_placings_22_2), ([zR 1, zI 3, zR 2], e_X7_placings_22_3)]
theorem we_X7_placings_22 : zgdR 0 0 (zI 4294967296) (fun f => zfn 6 (b_X7_placingsa f)) es_X7_placings_22 = true := by decide +kernel
theorem ev_X7_placings_22 : zselfR 0 0 (zI 4294967296) es_X7_placings_22 [zR 1, zI 0, zR 2] e_X7_placings_22_0 (zrk (zI 4294967296) e_X7_placings_22_0) = true := by decide +kernel
noncomputable def g_X7_placings_22 {d : Nat} : List zV → zH d → zP d → Bool := zsmy [(0, 0), (0, 2)] [zR 1, zI 0, zR 2] e_X7_placings_22_0 (zI 4294967296) e_X7_placings_22_0
theorem mg_X7_placings_22 {d : Nat} : zMet (d := d) X_X7_placings yX7_placings 9 g_X7_placings_22 := zMet_sm (mr_X7_placingsa es_X7_placings_22 we_X7_placings_22 8 (by decide)) ev_X7_placings_22
noncomputable def e_X7_placings_23_0 : zH 1 := (show zT 1 from ((0, 4, 0x1000000000100000000010000000001), (0, 2, 0x1000000000100000000)), (2, (0, 0)))
noncomputable def e_X7_placings_23_1 : zH 1 := (show zT 1 from ((0, 4, 0x1000000000100000000010000000001), (0, 2, 0x1000000000100000000)), (2, (0, 0)))
noncomputable def e_X7_placings_23_2 : zH 1 := (show zT 1 from ((0, 4, 0x1000000000100000000010000000001), (0, 2, 0x1000000000100000000)), (2, (0, 0)))
noncomputable def e_X7_placings_23_3 : zH 1 := (show zT 1 from ((0, 4, 0x1000000000100000000010000000001), (0, 2, 0x1000000000100000000)), (2, (0, 0)))
noncomputable def e_X7_placings_23_4 : zH 1 := (show zT 1 from ((0, 4, 0x1000000000100000000010000000001), (0, 2, 0x1000000000100000000)), (2, (0, 0)))
noncomputable abbrev es_X7_placings_23 : List (zEn 1) := [([zR 1, zI 0, zR 2], e_X7_placings_23_0), ([zR 1, zI 1, zR 2], e_X7_placings_23_1), ([zR 1, zI 2, zR 2], e_X7_placings_23_2), ([zR 1, zI 3, zR 2], e_X7_placings_23_3), ([zR 1, zI 4, zR 2], e_X7_placings_23_4)]
theorem we_X7_placings_23 : zgdR 0 0 (zI 4294967296) (fun f => zfn 6 (b_X7_placingsa f)) es_X7_placings_23 = true := by decide +kernel
theorem ev_X7_placings_23 : zselfR 0 0 (zI 4294967296) es_X7_placings_23 [zR 1, zI 0, zR 2] e_X7_placings_23_0 (zrk (zI 4294967296) e_X7_placings_23_0) = true := by decide +kernel
noncomputable def g_X7_placings_23 {d : Nat} : List zV → zH d → zP d → Bool := zsmy [(0, 0), (0, 2)] [zR 1, zI 0, zR 2] e_X7_placings_23_0 (zI 4294967296) e_X7_placings_23_0
theorem mg_X7_placings_23 {d : Nat} : zMet (d := d) X_X7_placings yX7_placings 9 g_X7_placings_23 := zMet_sm (mr_X7_placingsa es_X7_placings_23 we_X7_placings_23 8 (by decide)) ev_X7_placings_23
noncomputable def e_X7_placings_24_0 : zH 1 := (show zT 1 from ((0, 1, 4), (0, 3, 0x10000000001000000000100000000)), (2, (0, 0)))
noncomputable def e_X7_placings_24_1 : zH 1 := (show zT 1 from ((0, 1, 4), (0, 3, 0x10000000001000000000100000000)), (2, (0, 0)))
noncomputable abbrev es_X7_placings_24 : List (zEn 1) := [([zR 1, zI 0, zR 2], e_X7_placings_24_0), ([zR 1, zI 1, zR 2], e_X7_placings_24_1)]
theorem we_X7_placings_24 : zgdR 0 0 (zI 4294967296) (fun f => zfn 6 (b_X7_placingsa f)) es_X7_placings_24 = true := by decide +kernel
theorem ev_X7_placings_24 : zselfR 0 0 (zI 4294967296) es_X7_placings_24 [zR 1, zI 0, zR 2] e_X7_placings_24_0 (zrk (zI 4294967296) e_X7_placings_24_0) = true := by decide +kernel
noncomputable def g_X7_placings_24 {d : Nat} : List zV → zH d → zP d → Bool := zsmy [(0, 0), (0, 2)] [zR 1, zI 0, zR 2] e_X7_placings_24_0 (zI 4294967296) e_X7_placings_24_0
theorem mg_X7_placings_24 {d : Nat} : zMet (d := d) X_X7_placings yX7_placings 9 g_X7_placings_24 := zMet_sm (mr_X7_placingsa es_X7_placings_24 we_X7_placings_24 8 (by decide)) ev_X7_placings_24
noncomputable def e_X7_placings_25_0 : zH 1 := (show zT 1 from ((0, 2, 0x10000000003), (0, 3, 0x10000000001000000000100000000)), (2, (0, 0)))
noncomputable def e_X7_placings_25_1 : zH 1 := (show zT 1 from ((0, 2, 0x10000000003), (0, 3, 0x10000000001000000000100000000)), (2, (0, 0)))
noncomputable def e_X7_placings_25_2 : zH 1 := (show zT 1 from ((0, 2, 0x10000000003), (0, 3, 0x10000000001000000000100000000)), (2, (0, 0)))
noncomputable abbrev es_X7_placings_25 : List (zEn 1) := [([zR 1, zI 0, zR 2], e_X7_placings_25_0), ([zR 1, zI 1, zR 2], e_X7_placings_25_1), ([zR 1, zI 2, zR 2], e_X7_placings_25_2)]
theorem we_X7_placings_25 : zgdR 0 0 (zI 4294967296) (fun f => zfn 6 (b_X7_placingsa f)) es_X7_placings_25 = true := by decide +kernel
theorem ev_X7_placings_25 : zselfR 0 0 (zI 4294967296) es_X7_placings_25 [zR 1, zI 0, zR 2] e_X7_placings_25_0 (zrk (zI 4294967296) e_X7_placings_25_0) = true := by decide +kernel
noncomputable def g_X7_placings_25 {d : Nat} : List zV → zH d → zP d → Bool := zsmy [(0, 0), (0, 2)] [zR 1, zI 0, zR 2] e_X7_placings_25_0 (zI 4294967296) e_X7_placings_25_0
theorem mg_X7_placings_25 {d : Nat} : zMet (d := d) X_X7_placings yX7_placings 9 g_X7_placings_25 := zMet_sm (mr_X7_placingsa es_X7_placings_25 we_X7_placings_25 8 (by decide)) ev_X7_placings_25
noncomputable def e_X7_placings_26_0 : zH 1 := (show zT 1 from ((0, 2, 0x20000000002), (0, 3, 0x10000000001000000000100000000)), (2, (0, 0)))
noncomputable def e_X7_placings_26_1 : zH 1 := (show zT 1 from ((0, 2, 0x20000000002), (0, 3, 0x10000000001000000000100000000)), (2, (0, 0)))
noncomputable def e_X7_placings_26_2 : zH 1 := (show zT 1 from ((0, 2, 0x20000000002), (0, 3, 0x10000000001000000000100000000)), (2, (0, 0)))
noncomputable abbrev es_X7_placings_26 : List (zEn 1) := [([zR 1, zI 0, zR 2], e_X7_placings_26_0), ([zR 1, zI 1, zR 2], e_X7_placings_26_1), ([zR 1, zI 2, zR 2], e_X7_placings_26_2)]
theorem we_X7_placings_26 : zgdR 0 0 (zI 4294967296) (fun f => zfn 6 (b_X7_placingsa f)) es_X7_placings_26 = true := by decide +kernel
theorem ev_X7_placings_26 : zselfR 0 0 (zI 4294967296) es_X7_placings_26 [zR 1, zI 0, zR 2] e_X7_placings_26_0 (zrk (zI 4294967296) e_X7_placings_26_0) = true := by decide +kernel
noncomputable def g_X7_placings_26 {d : Nat} : List zV → zH d → zP d → Bool := zsmy [(0, 0), (0, 2)] [zR 1, zI 0, zR 2] e_X7_placings_26_0 (zI 4294967296) e_X7_placings_26_0
theorem mg_X7_placings_26 {d : Nat} : zMet (d := d) X_X7_placings yX7_placings 9 g_X7_placings_26 := zMet_sm (mr_X7_placingsa es_X7_placings_26 we_X7_placings_26 8 (by decide)) ev_X7_placings_26
noncomputable def e_X7_placings_27_0 : zH 1 := (show zT 1 from ((0, 3, 0x100000000010000000002), (0, 3, 0x10000000001000000000100000000)), (2, (0, 0)))
noncomputable def e_X7_placings_27_1 : zH 1 := (show zT 1 from ((0, 3, 0x100000000010000000002), (0, 3, 0x10000000001000000000100000000)), (2, (0, 0)))
noncomputable def e_X7_placings_27_2 : zH 1 := (show zT 1 from ((0, 3, 0x100000000010000000002), (0, 3, 0x10000000001000000000100000000)), (2, (0, 0)))
noncomputable def e_X7_placings_27_3 : zH 1 := (show zT 1 from ((0, 3, 0x100000000010000000002), (0, 3, 0x10000000001000000000100000000)), (2, (0, 0)))
noncomputable abbrev es_X7_placings_27 : List (zEn 1) := [([zR 1, zI 0, zR 2], e_X7_placings_27_0), ([zR 1, zI 1, zR 2], e_X7_placings_27_1), ([zR 1, zI 2, zR 2], e_X7_placings_27_2), ([zR 1, zI 3, zR 2], e_X7_placings_27_3)]
theorem we_X7_placings_27 : zgdR 0 0 (zI 4294967296) (fun f => zfn 6 (b_X7_placingsa f)) es_X7_placings_27 = true := by decide +kernel
theorem ev_X7_placings_27 : zselfR 0 0 (zI 4294967296) es_X7_placings_27 [zR 1, zI 0, zR 2] e_X7_placings_27_0 (zrk (zI 4294967296) e_X7_placings_27_0) = true := by decide +kernel
noncomputable def g_X7_placings_27 {d : Nat} : List zV → zH d → zP d → Bool := zsmy [(0, 0), (0, 2)] [zR 1, zI 0, zR 2] e_X7_placings_27_0 (zI 4294967296) e_X7_placings_27_0
theorem mg_X7_placings_27 {d : Nat} : zMet (d := d) X_X7_placings yX7_placings 9 g_X7_placings_27 := zMet_sm (mr_X7_placingsa es_X7_placings_27 we_X7_placings_27 8 (by decide)) ev_X7_placings_27
noncomputable def e_X7_placings_28_0 : zH 1 := (show zT 1 from ((0, 4, 0x1000000000100000000010000000001), (0, 3, 0x10000000001000000000100000000)), (2, (0, 0)))
noncomputable def e_X7_placings_28_1 : zH 1 := (show zT 1 from ((0, 4, 0x1000000000100000000010000000001), (0, 3, 0x10000000001000000000100000000)), (2, (0, 0)))
noncomputable def e_X7_placings_28_2 : zH 1 := (show zT 1 from ((0, 4, 0x1000000000100000000010000000001), (0, 3, 0x10000000001000000000100000000)), (2, (0, 0)))
noncomputable def e_X7_placings_28_3 : zH 1 := (show zT 1 from ((0, 4, 0x1000000000100000000010000000001), (0, 3, 0x10000000001000000000100000000)), (2, (0, 0)))
noncomputable def e_X7_placings_28_4 : zH 1 := (show zT 1 from ((0, 4, 0x1000000000100000000010000000001), (0, 3, 0x10000000001000000000100000000)), (2, (0, 0)))
noncomputable abbrev es_X7_placings_28 : List (zEn 1) := [([zR 1, zI 0, zR 2], e_X7_placings_28_0), ([zR 1, zI 1, zR 2], e_X7_placings_28_1), ([zR 1, zI 2, zR 2], e_X7_placings_28_2), ([zR 1, zI 3, zR 2], e_X7_placings_28_3), ([zR 1, zI 4, zR 2], e_X7_placings_28_4)]
theorem we_X7_placings_28 : zgdR 0 0 (zI 4294967296) (fun f => zfn 6 (b_X7_placingsa f)) es_X7_placings_28 = true := by decide +kernel
theorem ev_X7_placings_28 : zselfR 0 0 (zI 4294967296) es_X7_placings_28 [zR 1, zI 0, zR 2] e_X7_placings_28_0 (zrk (zI 4294967296) e_X7_placings_28_0) = true := by decide +kernel
noncomputable def g_X7_placings_28 {d : Nat} : List zV → zH d → zP d → Bool := zsmy [(0, 0), (0, 2)] [zR 1, zI 0, zR 2] e_X7_placings_28_0 (zI 4294967296) e_X7_placings_28_0
theorem mg_X7_placings_28 {d : Nat} : zMet (d := d) X_X7_placings yX7_placings 9 g_X7_placings_28 := zMet_sm (mr_X7_placingsa es_X7_placings_28 we_X7_placings_28 8 (by decide)) ev_X7_placings_28
noncomputable def e_X7_placings_29_0 : zH 1 := (show zT 1 from ((0, 1, 4), (0, 4, 0x100000000010000000001000000000100000000)), (2, (0, 0)))
noncomputable def e_X7_placings_29_1 : zH 1 := (show zT 1 from ((0, 1, 4), (0, 4, 0x100000000010000000001000000000100000000)), (2, (0, 0)))
noncomputable abbrev es_X7_placings_29 : List (zEn 1) := [([zR 1, zI 0, zR 2], e_X7_placings_29_0), ([zR 1, zI 1, zR 2], e_X7_placings_29_1)]
theorem we_X7_placings_29 : zgdR 0 0 (zI 4294967296) (fun f => zfn 6 (b_X7_placingsa f)) es_X7_placings_29 = true := by decide +kernel
theorem ev_X7_placings_29 : zselfR 0 0 (zI 4294967296) es_X7_placings_29 [zR 1, zI 0, zR 2] e_X7_placings_29_0 (zrk (zI 4294967296) e_X7_placings_29_0) = true := by decide +kernel
noncomputable def g_X7_placings_29 {d : Nat} : List zV → zH d → zP d → Bool := zsmy [(0, 0), (0, 2)] [zR 1, zI 0, zR 2] e_X7_placings_29_0 (zI 4294967296) e_X7_placings_29_0
theorem mg_X7_placings_29 {d : Nat} : zMet (d := d) X_X7_placings yX7_placings 9 g_X7_placings_29 := zMet_sm (mr_X7_placingsa es_X7_placings_29 we_X7_placings_29 8 (by decide)) ev_X7_placings_29
noncomputable def e_X7_placings_30_0 : zH 1 := (show zT 1 from ((0, 2, 0x10000000003), (0, 4, 0x100000000010000000001000000000100000000)), (2, (0, 0)))
noncomputable def e_X7_placings_30_1 : zH 1 := (show zT 1 from ((0, 2, 0x10000000003), (0, 4, 0x100000000010000000001000000000100000000)), (2, (0, 0)))
noncomputable def e_X7_placings_30_2 : zH 1 := (show zT 1 from ((0, 2, 0x10000000003), (0, 4, 0x100000000010000000001000000000100000000)), (2, (0, 0)))
noncomputable abbrev es_X7_placings_30 : List (zEn 1) := [([zR 1, zI 0, zR 2], e_X7_placings_30_0), ([zR 1, zI 1, zR 2], e_X7_placings_30_1), ([zR 1, zI 2, zR 2], e_X7_placings_30_2)]
theorem we_X7_placings_30 : zgdR 0 0 (zI 4294967296) (fun f => zfn 6 (b_X7_placingsa f)) es_X7_placings_30 = true := by decide +kernel
theorem ev_X7_placings_30 : zselfR 0 0 (zI 4294967296) es_X7_placings_30 [zR 1, zI 0, zR 2] e_X7_placings_30_0 (zrk (zI 4294967296) e_X7_placings_30_0) = true := by decide +kernel
noncomputable def g_X7_placings_30 {d : Nat} : List zV → zH d → zP d → Bool := zsmy [(0, 0), (0, 2)] [zR 1, zI 0, zR 2] e_X7_placings_30_0 (zI 4294967296) e_X7_placings_30_0
theorem mg_X7_placings_30 {d : Nat} : zMet (d := d) X_X7_placings yX7_placings 9 g_X7_placings_30 := zMet_sm (mr_X7_placingsa es_X7_placings_30 we_X7_placings_30 8 (by decide)) ev_X7_placings_30
noncomputable def e_X7_placings_31_0 : zH 1 := (show zT 1 from ((0, 2, 0x20000000002), (0, 4, 0x100000000010000000001000000000100000000)), (2, (0, 0)))
noncomputable def e_X7_placings_31_1 : zH 1 := (show zT 1 from ((0, 2, 0x20000000002), (0, 4, 0x100000000010000000001000000000100000000)), (2, (0, 0)))
noncomputable def e_X7_placings_31_2 : zH 1 := (show zT 1 from ((0, 2, 0x20000000002), (0, 4, 0x100000000010000000001000000000100000000)), (2, (0, 0)))
noncomputable abbrev es_X7_placings_31 : List (zEn 1) := [([zR 1, zI 0, zR 2], e_X7_placings_31_0), ([zR 1, zI 1, zR 2], e_X7_placings_31_1), ([zR 1, zI 2, zR 2], e_X7_placings_31_2)]
theorem we_X7_placings_31 : zgdR 0 0 (zI 4294967296) (fun f => zfn 6 (b_X7_placingsa f)) es_X7_placings_31 = true := by decide +kernel
theorem ev_X7_placings_31 : zselfR 0 0 (zI 4294967296) es_X7_placings_31 [zR 1, zI 0, zR 2] e_X7_placings_31_0 (zrk (zI 4294967296) e_X7_placings_31_0) = true := by decide +kernel
noncomputable def g_X7_placings_31 {d : Nat} : List zV → zH d → zP d → Bool := zsmy [(0, 0), (0, 2)] [zR 1, zI 0, zR 2] e_X7_placings_31_0 (zI 4294967296) e_X7_placings_31_0
theorem mg_X7_placings_31 {d : Nat} : zMet (d := d) X_X7_placings yX7_placings 9 g_X7_placings_31 := zMet_sm (mr_X7_placingsa es_X7_placings_31 we_X7_placings_31 8 (by decide)) ev_X7_placings_31
noncomputable def e_X7_placings_32_0 : zH 1 := (show zT 1 from ((0, 3, 0x100000000010000000002), (0, 4, 0x100000000010000000001000000000100000000)), (2, (0, 0)))
noncomputable def e_X7_placings_32_1 : zH 1 := (show zT 1 from ((0, 3, 0x100000000010000000002), (0, 4, 0x100000000010000000001000000000100000000)), (2, (0, 0)))
noncomputable def e_X7_placings_32_2 : zH 1 := (show zT 1 from ((0, 3, 0x100000000010000000002), (0, 4, 0x100000000010000000001000000000100000000)), (2, (0, 0)))
noncomputable def e_X7_placings_32_3 : zH 1 := (show zT 1 from ((0, 3, 0x100000000010000000002), (0, 4, 0x100000000010000000001000000000100000000)), (2, (0, 0)))
noncomputable abbrev es_X7_placings_32 : List (zEn 1) := [([zR 1, zI 0, zR 2], e_X7_placings_32_0), ([zR 1, zI 1, zR 2], e_X7_placings_32_1), ([zR 1, zI 2, zR 2], e_X7_placings_32_2), ([zR 1, zI 3, zR 2], e_X7_placings_32_3)]
theorem we_X7_placings_32 : zgdR 0 0 (zI 4294967296) (fun f => zfn 6 (b_X7_placingsa f)) es_X7_placings_32 = true := by decide +kernel
theorem ev_X7_placings_32 : zselfR 0 0 (zI 4294967296) es_X7_placings_32 [zR 1, zI 0, zR 2] e_X7_placings_32_0 (zrk (zI 4294967296) e_X7_placings_32_0) = true := by decide +kernel
noncomputable def g_X7_placings_32 {d : Nat} : List zV → zH d → zP d → Bool := zsmy [(0, 0), (0, 2)] [zR 1, zI 0, zR 2] e_X7_placings_32_0 (zI 4294967296) e_X7_placings_32_0
theorem mg_X7_placings_32 {d : Nat} : zMet (d := d) X_X7_placings yX7_placings 9 g_X7_placings_32 := zMet_sm (mr_X7_placingsa es_X7_placings_32 we_X7_placings_32 8 (by decide)) ev_X7_placings_32
noncomputable def e_X7_placings_33_0 : zH 1 := (show zT 1 from ((0, 4, 0x1000000000100000000010000000001), (0, 4, 0x100000000010000000001000000000100000000)), (2, (0, 0)))
noncomputable def e_X7_placings_33_1 : zH 1 := (show zT 1 from ((0, 4, 0x1000000000100000000010000000001), (0, 4, 0x100000000010000000001000000000100000000)), (2, (0, 0)))
noncomputable def e_X7_placings_33_2 : zH 1 := (show zT 1 from ((0, 4, 0x1000000000100000000010000000001), (0, 4, 0x100000000010000000001000000000100000000)), (2, (0, 0)))
noncomputable def e_X7_placings_33_3 : zH 1 := (show zT 1 from ((0, 4, 0x1000000000100000000010000000001), (0, 4, 0x100000000010000000001000000000100000000)), (2, (0, 0)))
noncomputable def e_X7_placings_33_4 : zH 1 := (show zT 1 from ((0, 4, 0x1000000000100000000010000000001), (0, 4, 0x100000000010000000001000000000100000000)), (2, (0, 0)))
noncomputable abbrev es_X7_placings_33 : List (zEn 1) := [([zR 1, zI 0, zR 2], e_X7_placings_33_0), ([zR 1, zI 1, zR 2], e_X7_placings_33_1), ([zR 1, zI 2, zR 2], e_X7_placings_33_2), ([zR 1, zI 3, zR 2], e_X7_placings_33_3), ([zR 1, zI 4, zR 2], e_X7_placings_33_4)]
theorem we_X7_placings_33 : zgdR 0 0 (zI 4294967296) (fun f => zfn 6 (b_X7_placingsa f)) es_X7_placings_33 = true := by decide +kernel
theorem ev_X7_placings_33 : zselfR 0 0 (zI 4294967296) es_X7_placings_33 [zR 1, zI 0, zR 2] e_X7_placings_33_0 (zrk (zI 4294967296) e_X7_placings_33_0) = true := by decide +kernel
noncomputable def g_X7_placings_33 {d : Nat} : List zV → zH d → zP d → Bool := zsmy [(0, 0), (0, 2)] [zR 1, zI 0, zR 2] e_X7_placings_33_0 (zI 4294967296) e_X7_placings_33_0
theorem mg_X7_placings_33 {d : Nat} : zMet (d := d) X_X7_placings yX7_placings 9 g_X7_placings_33 := zMet_sm (mr_X7_placingsa es_X7_placings_33 we_X7_placings_33 8 (by decide)) ev_X7_placings_33
noncomputable def e_X7_placings_34_0 : zH 1 := (show zT 1 from ((0, 1, 5), (0, 1, 0x100000000)), (2, (0, 0)))
noncomputable def e_X7_placings_34_1 : zH 1 := (show zT 1 from ((0, 1, 5), (0, 1, 0x100000000)), (2, (0, 0)))
noncomputable abbrev es_X7_placings_34 : List (zEn 1) := [([zR 1, zI 0, zR 2], e_X7_placings_34_0), ([zR 1, zI 1, zR 2], e_X7_placings_34_1)]
theorem we_X7_placings_34 : zgdR 0 0 (zI 4294967296) (fun f => zfn 6 (b_X7_placingsa f)) es_X7_placings_34 = true := by decide +kernel
theorem ev_X7_placings_34 : zselfR 0 0 (zI 4294967296) es_X7_placings_34 [zR 1, zI 0, zR 2] e_X7_placings_34_0 (zrk (zI 4294967296) e_X7_placings_34_0) = true := by decide +kernel
noncomputable def g_X7_placings_34 {d : Nat} : List zV → zH d → zP d → Bool := zsmy [(0, 0), (0, 2)] [zR 1, zI 0, zR 2] e_X7_placings_34_0 (zI 4294967296) e_X7_placings_34_0
theorem mg_X7_placings_34 {d : Nat} : zMet (d := d) X_X7_placings yX7_placings 9 g_X7_placings_34 := zMet_sm (mr_X7_placingsa es_X7_placings_34 we_X7_placings_34 8 (by decide)) ev_X7_placings_34
noncomputable def e_X7_placings_35_0 : zH 1 := (show zT 1 from ((0, 2, 0x10000000004), (0, 1, 0x100000000)), (2, (0, 0)))
noncomputable def e_X7_placings_35_1 : zH 1 := (show zT 1 from ((0, 2, 0x10000000004), (0, 1, 0x100000000)), (2, (0, 0)))
noncomputable def e_X7_placings_35_2 : zH 1 := (show zT 1 from ((0, 2, 0x10000000004), (0, 1, 0x100000000)), (2, (0, 0)))
noncomputable abbrev es_X7_placings_35 : List (zEn 1) := [([zR 1, zI 0, zR 2], e_X7_placings_35_0), ([zR 1, zI 1, zR 2], e_X7_placings_35_1), ([zR 1, zI 2, zR 2], e_X7_placings_35_2)]
theorem we_X7_placings_35 : zgdR 0 0 (zI 4294967296) (fun f => zfn 6 (b_X7_placingsa f)) es_X7_placings_35 = true := by decide +kernel
theorem ev_X7_placings_35 : zselfR 0 0 (zI 4294967296) es_X7_placings_35 [zR 1, zI 0, zR 2] e_X7_placings_35_0 (zrk (zI 4294967296) e_X7_placings_35_0) = true := by decide +kernel
noncomputable def g_X7_placings_35 {d : Nat} : List zV → zH d → zP d → Bool := zsmy [(0, 0), (0, 2)] [zR 1, zI 0, zR 2] e_X7_placings_35_0 (zI 4294967296) e_X7_placings_35_0
theorem mg_X7_placings_35 {d : Nat} : zMet (d := d) X_X7_placings yX7_placings 9 g_X7_placings_35 := zMet_sm (mr_X7_placingsa es_X7_placings_35 we_X7_placings_35 8 (by decide)) ev_X7_placings_35
noncomputable def e_X7_placings_36_0 : zH 1 := (show zT 1 from ((0, 2, 0x20000000003), (0, 1, 0x100000000)), (2, (0, 0)))
noncomputable def e_X7_placings_36_1 : zH 1 := (show zT 1 from ((0, 2, 0x20000000003), (0, 1, 0x100000000)), (2, (0, 0)))
noncomputable def e_X7_placings_36_2 : zH 1 := (show zT 1 from ((0, 2, 0x20000000003), (0, 1, 0x100000000)), (2, (0, 0)))
noncomputable abbrev es_X7_placings_36 : List (zEn 1) := [([zR 1, zI 0, zR 2], e_X7_placings_36_0), ([zR 1, zI 1, zR 2], e_X7_placings_36_1), ([zR 1, zI 2, zR 2], e_X7_placings_36_2)]
theorem we_X7_placings_36 : zgdR 0 0 (zI 4294967296) (fun f => zfn 6 (b_X7_placingsa f)) es_X7_placings_36 = true := by decide +kernel
theorem ev_X7_placings_36 : zselfR 0 0 (zI 4294967296) es_X7_placings_36 [zR 1, zI 0, zR 2] e_X7_placings_36_0 (zrk (zI 4294967296) e_X7_placings_36_0) = true := by decide +kernel
noncomputable def g_X7_placings_36 {d : Nat} : List zV → zH d → zP d → Bool := zsmy [(0, 0), (0, 2)] [zR 1, zI 0, zR 2] e_X7_placings_36_0 (zI 4294967296) e_X7_placings_36_0
theorem mg_X7_placings_36 {d : Nat} : zMet (d := d) X_X7_placings yX7_placings 9 g_X7_placings_36 := zMet_sm (mr_X7_placingsa es_X7_placings_36 we_X7_placings_36 8 (by decide)) ev_X7_placings_36
noncomputable def e_X7_placings_37_0 : zH 1 := (show zT 1 from ((0, 3, 0x100000000010000000003), (0, 1, 0x100000000)), (2, (0, 0)))
noncomputable def e_X7_placings_37_1 : zH 1 := (show zT 1 from ((0, 3, 0x100000000010000000003), (0, 1, 0x100000000)), (2, (0, 0)))
noncomputable def e_X7_placings_37_2 : zH 1 := (show zT 1 from ((0, 3, 0x100000000010000000003), (0, 1, 0x100000000)), (2, (0, 0)))
noncomputable def e_X7_placings_37_3 : zH 1 := (show zT 1 from ((0, 3, 0x100000000010000000003), (0, 1, 0x100000000)), (2, (0, 0)))
noncomputable abbrev es_X7_placings_37 : List (zEn 1) := [([zR 1, zI 0, zR 2], e_X7_placings_37_0), ([zR 1, zI 1, zR 2], e_X7_placings_37_1), ([zR 1, zI 2, zR 2], e_X7_placings_37_2), ([zR 1, zI 3, zR 2], e_X7_placings_37_3)]
theorem we_X7_placings_37 : zgdR 0 0 (zI 4294967296) (fun f => zfn 6 (b_X7_placingsa f)) es_X7_placings_37 = true := by decide +kernel
theorem ev_X7_placings_37 : zselfR 0 0 (zI 4294967296) es_X7_placings_37 [zR 1, zI 0, zR 2] e_X7_placings_37_0 (zrk (zI 4294967296) e_X7_placings_37_0) = true := by decide +kernel
noncomputable def g_X7_placings_37 {d : Nat} : List zV → zH d → zP d → Bool := zsmy [(0, 0), (0, 2)] [zR 1, zI 0, zR 2] e_X7_placings_37_0 (zI 4294967296) e_X7_placings_37_0
theorem mg_X7_placings_37 {d : Nat} : zMet (d := d) X_X7_placings yX7_placings 9 g_X7_placings_37 := zMet_sm (mr_X7_placingsa es_X7_placings_37 we_X7_placings_37 8 (by decide)) ev_X7_placings_37
noncomputable def e_X7_placings_38_0 : zH 1 := (show zT 1 from ((0, 3, 0x100000000020000000002), (0, 1, 0x100000000)), (2, (0, 0)))
noncomputable def e_X7_placings_38_1 : zH 1 := (show zT 1 from ((0, 3, 0x100000000020000000002), (0, 1, 0x100000000)), (2, (0, 0)))
noncomputable def e_X7_placings_38_2 : zH 1 := (show zT 1 from ((0, 3, 0x100000000020000000002), (0, 1, 0x100000000)), (2, (0, 0)))
noncomputable def e_X7_placings_38_3 : zH 1 := (show zT 1 from ((0, 3, 0x100000000020000000002), (0, 1, 0x100000000)), (2, (0, 0)))
noncomputable abbrev es_X7_placings_38 : List (zEn 1) := [([zR 1, zI 0, zR 2], e_X7_placings_38_0), ([zR 1, zI 1, zR 2], e_X7_placings_38_1), ([zR 1, zI 2, zR 2], e_X7_placings_38_2), ([zR 1, zI 3, zR 2], e_X7_placings_38_3)]
theorem we_X7_placings_38 : zgdR 0 0 (zI 4294967296) (fun f => zfn 6 (b_X7_placingsa f)) es_X7_placings_38 = true := by decide +kernel
theorem ev_X7_placings_38 : zselfR 0 0 (zI 4294967296) es_X7_placings_38 [zR 1, zI 0, zR 2] e_X7_placings_38_0 (zrk (zI 4294967296) e_X7_placings_38_0) = true := by decide +kernel
noncomputable def g_X7_placings_38 {d : Nat} : List zV → zH d → zP d → Bool := zsmy [(0, 0), (0, 2)] [zR 1, zI 0, zR 2] e_X7_placings_38_0 (zI 4294967296) e_X7_placings_38_0
theorem mg_X7_placings_38 {d : Nat} : zMet (d := d) X_X7_placings yX7_placings 9 g_X7_placings_38 := zMet_sm (mr_X7_placingsa es_X7_placings_38 we_X7_placings_38 8 (by decide)) ev_X7_placings_38
noncomputable def e_X7_placings_39_0 : zH 1 := (show zT 1 from ((0, 4, 0x1000000000100000000010000000002), (0, 1, 0x100000000)), (2, (0, 0)))
noncomputable def e_X7_placings_39_1 : zH 1 := (show zT 1 from ((0, 4, 0x1000000000100000000010000000002), (0, 1, 0x100000000)), (2, (0, 0)))
noncomputable def e_X7_placings_39_2 : zH 1 := (show zT 1 from ((0, 4, 0x1000000000100000000010000000002), (0, 1, 0x100000000)), (2, (0, 0)))
noncomputable def e_X7_placings_39_3 : zH 1 := (show zT 1 from ((0, 4, 0x1000000000100000000010000000002), (0, 1, 0x100000000)), (2, (0, 0)))
noncomputable def e_X7_placings_39_4 : zH 1 := (show zT 1 from ((0, 4, 0x1000000000100000000010000000002), (0, 1, 0x100000000)), (2, (0, 0)))
noncomputable abbrev es_X7_placings_39 : List (zEn 1) := [([zR 1, zI 0, zR 2], e_X7_placings_39_0), ([zR 1, zI 1, zR 2], e_X7_placings_39_1), ([zR 1, zI 2, zR 2], e_X7_placings_39_2), ([zR 1, zI 3, zR 2], e_X7_placings_39_3), ([zR 1, zI 4, zR 2], e_X7_placings_39_4)]
theorem we_X7_placings_39 : zgdR 0 0 (zI 4294967296) (fun f => zfn 6 (b_X7_placingsa f)) es_X7_placings_39 = true := by decide +kernel
theorem ev_X7_placings_39 : zselfR 0 0 (zI 4294967296) es_X7_placings_39 [zR 1, zI 0, zR 2] e_X7_placings_39_0 (zrk (zI 4294967296) e_X7_placings_39_0) = true := by decide +kernel
noncomputable def g_X7_placings_39 {d : Nat} : List zV → zH d → zP d → Bool := zsmy [(0, 0), (0, 2)] [zR 1, zI 0, zR 2] e_X7_placings_39_0 (zI 4294967296) e_X7_placings_39_0
theorem mg_X7_placings_39 {d : Nat} : zMet (d := d) X_X7_placings yX7_placings 9 g_X7_placings_39 := zMet_sm (mr_X7_placingsa es_X7_placings_39 we_X7_placings_39 8 (by decide)) ev_X7_placings_39
noncomputable def e_X7_placings_40_0 : zH 1 := (show zT 1 from ((0, 5, 0x10000000001000000000100000000010000000001), (0, 1, 0x100000000)), (2, (0, 0)))
noncomputable def e_X7_placings_40_1 : zH 1 := (show zT 1 from ((0, 5, 0x10000000001000000000100000000010000000001), (0, 1, 0x100000000)), (2, (0, 0)))
noncomputable def e_X7_placings_40_2 : zH 1 := (show zT 1 from ((0, 5, 0x10000000001000000000100000000010000000001), (0, 1, 0x100000000)), (2, (0, 0)))
noncomputable def e_X7_placings_40_3 : zH 1 := (show zT 1 from ((0, 5, 0x10000000001000000000100000000010000000001), (0, 1, 0x100000000)), (2, (0, 0)))
noncomputable def e_X7_placings_40_4 : zH 1 := (show zT 1 from ((0, 5, 0x10000000001000000000100000000010000000001), (0, 1, 0x100000000)), (2, (0, 0)))
noncomputable def e_X7_placings_40_5 : zH 1 := (show zT 1 from ((0, 5, 0x10000000001000000000100000000010000000001), (0, 1, 0x100000000)), (2, (0, 0)))
noncomputable abbrev es_X7_placings_40 : List (zEn 1) := [([zR 1, zI 0, zR 2], e_X7_placings_40_0), ([zR 1, zI 1, zR 2], e_X7_placings_40_1), ([zR 1, zI 2, zR 2], e_X7_placings_40_2), ([zR 1, zI 3, zR 2], e_X7_placings_40_3), ([zR 1, zI 4, zR 2], e_X7_placings_40_4), ([zR 1, zI 5, zR 2], e_X7_placings_40_5)]
theorem we_X7_placings_40 : zgdR 0 0 (zI 4294967296) (fun f => zfn 6 (b_X7_placingsa f)) es_X7_placings_40 = true := by decide +kernel
theorem ev_X7_placings_40 : zselfR 0 0 (zI 4294967296) es_X7_placings_40 [zR 1, zI 0, zR 2] e_X7_placings_40_0 (zrk (zI 4294967296) e_X7_placings_40_0) = true := by decide +kernel
noncomputable def g_X7_placings_40 {d : Nat} : List zV → zH d → zP d → Bool := zsmy [(0, 0), (0, 2)] [zR 1, zI 0, zR 2] e_X7_placings_40_0 (zI 4294967296) e_X7_placings_40_0
theorem mg_X7_placings_40 {d : Nat} : zMet (d := d) X_X7_placings yX7_placings 9 g_X7_placings_40 := zMet_sm (mr_X7_placingsa es_X7_placings_40 we_X7_placings_40 8 (by decide)) ev_X7_placings_40
noncomputable def e_X7_placings_41_0 : zH 1 := (show zT 1 from ((0, 1, 5), (0, 2, 0x1000000000100000000)), (2, (0, 0)))
noncomputable def e_X7_placings_41_1 : zH 1 := (show zT 1 from ((0, 1, 5), (0, 2, 0x1000000000100000000)), (2, (0, 0)))
noncomputable abbrev es_X7_placings_41 : List (zEn 1) := [([zR 1, zI 0, zR 2], e_X7_placings_41_0), ([zR 1, zI 1, zR 2], e_X7_placings_41_1)]
theorem we_X7_placings_41 : zgdR 0 0 (zI 4294967296) (fun f => zfn 6 (b_X7_placingsa f)) es_X7_placings_41 = true := by decide +kernel
theorem ev_X7_placings_41 : zselfR 0 0 (zI 4294967296) es_X7_placings_41 [zR 1, zI 0, zR 2] e_X7_placings_41_0 (zrk (zI 4294967296) e_X7_placings_41_0) = true := by decide +kernel
noncomputable def g_X7_placings_41 {d : Nat} : List zV → zH d → zP d → Bool := zsmy [(0, 0), (0, 2)] [zR 1, zI 0, zR 2] e_X7_placings_41_0 (zI 4294967296) e_X7_placings_41_0
theorem mg_X7_placings_41 {d : Nat} : zMet (d := d) X_X7_placings yX7_placings 9 g_X7_placings_41 := zMet_sm (mr_X7_placingsa es_X7_placings_41 we_X7_placings_41 8 (by decide)) ev_X7_placings_41
noncomputable def e_X7_placings_42_0 : zH 1 := (show zT 1 from ((0, 2, 0x10000000004), (0, 2, 0x1000000000100000000)), (2, (0, 0)))
noncomputable def e_X7_placings_42_1 : zH 1 := (show zT 1 from ((0, 2, 0x10000000004), (0, 2, 0x1000000000100000000)), (2, (0, 0)))
noncomputable def e_X7_placings_42_2 : zH 1 := (show zT 1 from ((0, 2, 0x10000000004), (0, 2, 0x1000000000100000000)), (2, (0, 0)))
noncomputable abbrev es_X7_placings_42 : List (zEn 1) := [([zR 1, zI 0, zR 2], e_X7_placings_42_0), ([zR 1, zI 1, zR 2], e_X7_placings_42_1), ([zR 1, zI 2, zR 2], e_X7_placings_42_2)]
theorem we_X7_placings_42 : zgdR 0 0 (zI 4294967296) (fun f => zfn 6 (b_X7_placingsa f)) es_X7_placings_42 = true := by decide +kernel
theorem ev_X7_placings_42 : zselfR 0 0 (zI 4294967296) es_X7_placings_42 [zR 1, zI 0, zR 2] e_X7_placings_42_0 (zrk (zI 4294967296) e_X7_placings_42_0) = true := by decide +kernel
noncomputable def g_X7_placings_42 {d : Nat} : List zV → zH d → zP d → Bool := zsmy [(0, 0), (0, 2)] [zR 1, zI 0, zR 2] e_X7_placings_42_0 (zI 4294967296) e_X7_placings_42_0
theorem mg_X7_placings_42 {d : Nat} : zMet (d := d) X_X7_placings yX7_placings 9 g_X7_placings_42 := zMet_sm (mr_X7_placingsa es_X7_placings_42 we_X7_placings_42 8 (by decide)) ev_X7_placings_42
noncomputable def e_X7_placings_43_0 : zH 1 := (show zT 1 from ((0, 2, 0x20000000003), (0, 2, 0x1000000000100000000)), (2, (0, 0)))
noncomputable def e_X7_placings_43_1 : zH 1 := (show zT 1 from ((0, 2, 0x20000000003), (0, 2, 0x1000000000100000000)), (2, (0, 0)))
noncomputable def e_X7_placings_43_2 : zH 1 := (show zT 1 from ((0, 2, 0x20000000003), (0, 2, 0x1000000000100000000)), (2, (0, 0)))
noncomputable abbrev es_X7_placings_43 : List (zEn 1) := [([zR 1, zI 0, zR 2], e_X7_placings_43_0), ([zR 1, zI 1, zR 2], e_X7_placings_43_1), ([zR 1, zI 2, zR 2], e_X7_placings_43_2)]
theorem we_X7_placings_43 : zgdR 0 0 (zI 4294967296) (fun f => zfn 6 (b_X7_placingsa f)) es_X7_placings_43 = true := by decide +kernel
theorem ev_X7_placings_43 : zselfR 0 0 (zI 4294967296) es_X7_placings_43 [zR 1, zI 0, zR 2] e_X7_placings_43_0 (zrk (zI 4294967296) e_X7_placings_43_0) = true := by decide +kernel
noncomputable def g_X7_placings_43 {d : Nat} : List zV → zH d → zP d → Bool := zsmy [(0, 0), (0, 2)] [zR 1, zI 0, zR 2] e_X7_placings_43_0 (zI 4294967296) e_X7_placings_43_0
theorem mg_X7_placings_43 {d : Nat} : zMet (d := d) X_X7_placings yX7_placings 9 g_X7_placings_43 := zMet_sm (mr_X7_placingsa es_X7_placings_43 we_X7_placings_43 8 (by decide)) ev_X7_placings_43
noncomputable def e_X7_placings_44_0 : zH 1 := (show zT 1 from ((0, 3, 0x100000000010000000003), (0, 2, 0x1000000000100000000)), (2, (0, 0)))
noncomputable def e_X7_placings_44_1 : zH 1 := (show zT 1 from ((0, 3, 0x100000000010000000003), (0, 2, 0x1000000000100000000)), (2, (0, 0)))
noncomputable def e_X7_placings_44_2 : zH 1 := (show zT 1 from ((0, 3, 0x100000000010000000003), (0, 2, 0x1000000000100000000)), (2, (0, 0)))
noncomputable def e_X7_placings_44_3 : zH 1 := (show zT 1 from ((0, 3, 0x100000000010000000003), (0, 2, 0x1000000000100000000)), (2, (0, 0)))
noncomputable abbrev es_X7_placings_44 : List (zEn 1) := [([zR 1, zI 0, zR 2], e_X7_placings_44_0), ([zR 1, zI 1, zR 2], e_X7_placings_44_1), ([zR 1, zI 2, zR 2], e_X7_placings_44_2), ([zR 1, zI 3, zR 2], e_X7_placings_44_3)]
theorem we_X7_placings_44 : zgdR 0 0 (zI 4294967296) (fun f => zfn 6 (b_X7_placingsa f)) es_X7_placings_44 = true := by decide +kernel
theorem ev_X7_placings_44 : zselfR 0 0 (zI 4294967296) es_X7_placings_44 [zR 1, zI 0, zR 2] e_X7_placings_44_0 (zrk (zI 4294967296) e_X7_placings_44_0) = true := by decide +kernel
noncomputable def g_X7_placings_44 {d : Nat} : List zV → zH d → zP d → Bool := zsmy [(0, 0), (0, 2)] [zR 1, zI 0, zR 2] e_X7_placings_44_0 (zI 4294967296) e_X7_placings_44_0
theorem mg_X7_placings_44 {d : Nat} : zMet (d := d) X_X7_placings yX7_placings 9 g_X7_placings_44 := zMet_sm (mr_X7_placingsa es_X7_placings_44 we_X7_placings_44 8 (by decide)) ev_X7_placings_44
noncomputable def e_X7_placings_45_0 : zH 1 := (show zT 1 from ((0, 3, 0x100000000020000000002), (0, 2, 0x1000000000100000000)), (2, (0, 0)))
noncomputable def e_X7_placings_45_1 : zH 1 := (show zT 1 from ((0, 3, 0x100000000020000000002), (0, 2, 0x1000000000100000000)), (2, (0, 0)))
noncomputable def e_X7_placings_45_2 : zH 1 := (show zT 1 from ((0, 3, 0x100000000020000000002), (0, 2, 0x1000000000100000000)), (2, (0, 0)))
noncomputable def e_X7_placings_45_3 : zH 1 := (show zT 1 from ((0, 3, 0x100000000020000000002), (0, 2, 0x1000000000100000000)), (2, (0, 0)))
noncomputable abbrev es_X7_placings_45 : List (zEn 1) := [([zR 1, zI 0, zR 2], e_X7_placings_45_0), ([zR 1, zI 1, zR 2], e_X7_placings_45_1), ([zR 1, zI 2, zR 2], e_X7_placings_45_2), ([zR 1, zI 3, zR 2], e_X7_placings_45_3)]
theorem we_X7_placings_45 : zgdR 0 0 (zI 4294967296) (fun f => zfn 6 (b_X7_placingsa f)) es_X7_placings_45 = true := by decide +kernel
theorem ev_X7_placings_45 : zselfR 0 0 (zI 4294967296) es_X7_placings_45 [zR 1, zI 0, zR 2] e_X7_placings_45_0 (zrk (zI 4294967296) e_X7_placings_45_0) = true := by decide +kernel
noncomputable def g_X7_placings_45 {d : Nat} : List zV → zH d → zP d → Bool := zsmy [(0, 0), (0, 2)] [zR 1, zI 0, zR 2] e_X7_placings_45_0 (zI 4294967296) e_X7_placings_45_0
theorem mg_X7_placings_45 {d : Nat} : zMet (d := d) X_X7_placings yX7_placings 9 g_X7_placings_45 := zMet_sm (mr_X7_placingsa es_X7_placings_45 we_X7_placings_45 8 (by decide)) ev_X7_placings_45
noncomputable def e_X7_placings_46_0 : zH 1 := (show zT 1 from ((0, 4, 0x1000000000100000000010000000002), (0, 2, 0x1000000000100000000)), (2, (0, 0)))
noncomputable def e_X7_placings_46_1 : zH 1 := (show zT 1 from ((0, 4, 0x1000000000100000000010000000002), (0, 2, 0x1000000000100000000)), (2, (0, 0)))
noncomputable def e_X7_placings_46_2 : zH 1 := (show zT 1 from ((0, 4, 0x1000000000100000000010000000002), (0, 2, 0x1000000000100000000)), (2, (0, 0)))
noncomputable def e_X7_placings_46_3 : zH 1 := (show zT 1 from ((0, 4, 0x1000000000100000000010000000002), (0, 2, 0x1000000000100000000)), (2, (0, 0)))
noncomputable def e_X7_placings_46_4 : zH 1 := (show zT 1 from ((0, 4, 0x1000000000100000000010000000002), (0, 2, 0x1000000000100000000)), (2, (0, 0)))
noncomputable abbrev es_X7_placings_46 : List (zEn 1) := [([zR 1, zI 0, zR 2], e_X7_placings_46_0), ([zR 1, zI 1, zR 2], e_X7_placings_46_1), ([zR 1, zI 2, zR 2], e_X7_placings_46_2), ([zR 1, zI 3, zR 2], e_X7_placings_46_3), ([zR 1, zI 4, zR 2], e_X7_placings_46_4)]
theorem we_X7_placings_46 : zgdR 0 0 (zI 4294967296) (fun f => zfn 6 (b_X7_placingsa f)) es_X7_placings_46 = true := by decide +kernel
theorem ev_X7_placings_46 : zselfR 0 0 (zI 4294967296) es_X7_placings_46 [zR 1, zI 0, zR 2] e_X7_placings_46_0 (zrk (zI 4294967296) e_X7_placings_46_0) = true := by decide +kernel
noncomputable def g_X7_placings_46 {d : Nat} : List zV → zH d → zP d → Bool := zsmy [(0, 0), (0, 2)] [zR 1, zI 0, zR 2] e_X7_placings_46_0 (zI 4294967296) e_X7_placings_46_0
theorem mg_X7_placings_46 {d : Nat} : zMet (d := d) X_X7_placings yX7_placings 9 g_X7_placings_46 := zMet_sm (mr_X7_placingsa es_X7_placings_46 we_X7_placings_46 8 (by decide)) ev_X7_placings_46
noncomputable def e_X7_placings_47_0 : zH 1 := (show zT 1 from ((0, 5, 0x10000000001000000000100000000010000000001), (0, 2, 0x1000000000100000000)), (2, (0, 0)))
noncomputable def e_X7_placings_47_1 : zH 1 := (show zT 1 from ((0, 5, 0x10000000001000000000100000000010000000001), (0, 2, 0x1000000000100000000)), (2, (0, 0)))
noncomputable def e_X7_placings_47_2 : zH 1 := (show zT 1 from ((0, 5, 0x10000000001000000000100000000010000000001), (0, 2, 0x1000000000100000000)), (2, (0, 0)))
noncomputable def e_X7_placings_47_3 : zH 1 := (show zT 1 from ((0, 5, 0x10000000001000000000100000000010000000001), (0, 2, 0x1000000000100000000)), (2, (0, 0)))
noncomputable def e_X7_placings_47_4 : zH 1 := (show zT 1 from ((0, 5, 0x10000000001000000000100000000010000000001), (0, 2, 0x1000000000100000000)), (2, (0, 0)))
noncomputable def e_X7_placings_47_5 : zH 1 := (show zT 1 from ((0, 5, 0x10000000001000000000100000000010000000001), (0, 2, 0x1000000000100000000)), (2, (0, 0)))
noncomputable abbrev es_X7_placings_47 : List (zEn 1) := [([zR 1, zI 0, zR 2], e_X7_placings_47_0), ([zR 1, zI 1, zR 2], e_X7_placings_47_1), ([zR 1, zI 2, zR 2], e_X7_placings_47_2), ([zR 1, zI 3, zR 2], e_X7_placings_47_3), ([zR 1, zI 4, zR 2], e_X7_placings_47_4), ([zR 1, zI 5, zR 2], e_X7_placings_47_5)]
theorem we_X7_placings_47 : zgdR 0 0 (zI 4294967296) (fun f => zfn 6 (b_X7_placingsa f)) es_X7_placings_47 = true := by decide +kernel
theorem ev_X7_placings_47 : zselfR 0 0 (zI 4294967296) es_X7_placings_47 [zR 1, zI 0, zR 2] e_X7_placings_47_0 (zrk (zI 4294967296) e_X7_placings_47_0) = true := by decide +kernel
noncomputable def g_X7_placings_47 {d : Nat} : List zV → zH d → zP d → Bool := zsmy [(0, 0), (0, 2)] [zR 1, zI 0, zR 2] e_X7_placings_47_0 (zI 4294967296) e_X7_placings_47_0
theorem mg_X7_placings_47 {d : Nat} : zMet (d := d) X_X7_placings yX7_placings 9 g_X7_placings_47 := zMet_sm (mr_X7_placingsa es_X7_placings_47 we_X7_placings_47 8 (by decide)) ev_X7_placings_47
noncomputable def e_X7_placings_48_0 : zH 1 := (show zT 1 from ((0, 1, 5), (0, 3, 0x10000000001000000000100000000)), (2, (0, 0)))
noncomputable def e_X7_placings_48_1 : zH 1 := (show zT 1 from ((0, 1, 5), (0, 3, 0x10000000001000000000100000000)), (2, (0, 0)))
noncomputable abbrev es_X7_placings_48 : List (zEn 1) := [([zR 1, zI 0, zR 2], e_X7_placings_48_0), ([zR 1, zI 1, zR 2], e_X7_placings_48_1)]
theorem we_X7_placings_48 : zgdR 0 0 (zI 4294967296) (fun f => zfn 6 (b_X7_placingsa f)) es_X7_placings_48 = true := by decide +kernel
theorem ev_X7_placings_48 : zselfR 0 0 (zI 4294967296) es_X7_placings_48 [zR 1, zI 0, zR 2] e_X7_placings_48_0 (zrk (zI 4294967296) e_X7_placings_48_0) = true := by decide +kernel
noncomputable def g_X7_placings_48 {d : Nat} : List zV → zH d → zP d → Bool := zsmy [(0, 0), (0, 2)] [zR 1, zI 0, zR 2] e_X7_placings_48_0 (zI 4294967296) e_X7_placings_48_0
theorem mg_X7_placings_48 {d : Nat} : zMet (d := d) X_X7_placings yX7_placings 9 g_X7_placings_48 := zMet_sm (mr_X7_placingsa es_X7_placings_48 we_X7_placings_48 8 (by decide)) ev_X7_placings_48
noncomputable def e_X7_placings_49_0 : zH 1 := (show zT 1 from ((0, 2, 0x10000000004), (0, 3, 0x10000000001000000000100000000)), (2, (0, 0)))
noncomputable def e_X7_placings_49_1 : zH 1 := (show zT 1 from ((0, 2, 0x10000000004), (0, 3, 0x10000000001000000000100000000)), (2, (0, 0)))
noncomputable def e_X7_placings_49_2 : zH 1 := (show zT 1 from ((0, 2, 0x10000000004), (0, 3, 0x10000000001000000000100000000)), (2, (0, 0)))
noncomputable abbrev es_X7_placings_49 : List (zEn 1) := [([zR 1, zI 0, zR 2], e_X7_placings_49_0), ([zR 1, zI 1, zR 2], e_X7_placings_49_1), ([zR 1, zI 2, zR 2], e_X7_placings_49_2)]
theorem we_X7_placings_49 : zgdR 0 0 (zI 4294967296) (fun f => zfn 6 (b_X7_placingsa f)) es_X7_placings_49 = true := by decide +kernel
theorem ev_X7_placings_49 : zselfR 0 0 (zI 4294967296) es_X7_placings_49 [zR 1, zI 0, zR 2] e_X7_placings_49_0 (zrk (zI 4294967296) e_X7_placings_49_0) = true := by decide +kernel
noncomputable def g_X7_placings_49 {d : Nat} : List zV → zH d → zP d → Bool := zsmy [(0, 0), (0, 2)] [zR 1, zI 0, zR 2] e_X7_placings_49_0 (zI 4294967296) e_X7_placings_49_0
theorem mg_X7_placings_49 {d : Nat} : zMet (d := d) X_X7_placings yX7_placings 9 g_X7_placings_49 := zMet_sm (mr_X7_placingsa es_X7_placings_49 we_X7_placings_49 8 (by decide)) ev_X7_placings_49
noncomputable def e_X7_placings_50_0 : zH 1 := (show zT 1 from ((0, 2, 0x20000000003), (0, 3, 0x10000000001000000000100000000)), (2, (0, 0)))
noncomputable def e_X7_placings_50_1 : zH 1 := (show zT 1 from ((0, 2, 0x20000000003), (0, 3, 0x10000000001000000000100000000)), (2, (0, 0)))
noncomputable def e_X7_placings_50_2 : zH 1 := (show zT 1 from ((0, 2, 0x20000000003), (0, 3, 0x10000000001000000000100000000)), (2, (0, 0)))
noncomputable abbrev es_X7_placings_50 : List (zEn 1) := [([zR 1, zI 0, zR 2], e_X7_placings_50_0), ([zR 1, zI 1, zR 2], e_X7_placings_50_1), ([zR 1, zI 2, zR 2], e_X7_placings_50_2)]
theorem we_X7_placings_50 : zgdR 0 0 (zI 4294967296) (fun f => zfn 6 (b_X7_placingsa f)) es_X7_placings_50 = true := by decide +kernel
theorem ev_X7_placings_50 : zselfR 0 0 (zI 4294967296) es_X7_placings_50 [zR 1, zI 0, zR 2] e_X7_placings_50_0 (zrk (zI 4294967296) e_X7_placings_50_0) = true := by decide +kernel
noncomputable def g_X7_placings_50 {d : Nat} : List zV → zH d → zP d → Bool := zsmy [(0, 0), (0, 2)] [zR 1, zI 0, zR 2] e_X7_placings_50_0 (zI 4294967296) e_X7_placings_50_0
theorem mg_X7_placings_50 {d : Nat} : zMet (d := d) X_X7_placings yX7_placings 9 g_X7_placings_50 := zMet_sm (mr_X7_placingsa es_X7_placings_50 we_X7_placings_50 8 (by decide)) ev_X7_placings_50
noncomputable def e_X7_placings_51_0 : zH 1 := (show zT 1 from ((0, 3, 0x100000000010000000003), (0, 3, 0x10000000001000000000100000000)), (2, (0, 0)))
noncomputable def e_X7_placings_51_1 : zH 1 := (show zT 1 from ((0, 3, 0x100000000010000000003), (0, 3, 0x10000000001000000000100000000)), (2, (0, 0)))
noncomputable def e_X7_placings_51_2 : zH 1 := (show zT 1 from ((0, 3, 0x100000000010000000003), (0, 3, 0x10000000001000000000100000000)), (2, (0, 0)))
noncomputable def e_X7_placings_51_3 : zH 1 := (show zT 1 from ((0, 3, 0x100000000010000000003), (0, 3, 0x10000000001000000000100000000)), (2, (0, 0)))
noncomputable abbrev es_X7_placings_51 : List (zEn 1) := [([zR 1, zI 0, zR 2], e_X7_placings_51_0), ([zR 1, zI 1, zR 2], e_X7_placings_51_1), ([zR 1, zI 2, zR 2], e_X7_placings_51_2), ([zR 1, zI 3, zR 2], e_X7_placings_51_3)]
theorem we_X7_placings_51 : zgdR 0 0 (zI 4294967296) (fun f => zfn 6 (b_X7_placingsa f)) es_X7_placings_51 = true := by decide +kernel
theorem ev_X7_placings_51 : zselfR 0 0 (zI 4294967296) es_X7_placings_51 [zR 1, zI 0, zR 2] e_X7_placings_51_0 (zrk (zI 4294967296) e_X7_placings_51_0) = true := by decide +kernel
noncomputable def g_X7_placings_51 {d : Nat} : List zV → zH d → zP d → Bool := zsmy [(0, 0), (0, 2)] [zR 1, zI 0, zR 2] e_X7_placings_51_0 (zI 4294967296) e_X7_placings_51_0
theorem mg_X7_placings_51 {d : Nat} : zMet (d := d) X_X7_placings yX7_placings 9 g_X7_placings_51 := zMet_sm (mr_X7_placingsa es_X7_placings_51 we_X7_placings_51 8 (by decide)) ev_X7_placings_51
noncomputable def e_X7_placings_52_0 : zH 1 := (show zT 1 from ((0, 3, 0x100000000020000000002), (0, 3, 0x10000000001000000000100000000)), (2, (0, 0)))
noncomputable def e_X7_placings_52_1 : zH 1 := (show zT 1 from ((0, 3, 0x100000000020000000002), (0, 3, 0x10000000001000000000100000000)), (2, (0, 0)))
noncomputable def e_X7_placings_52_2 : zH 1 := (show zT 1 from ((0, 3, 0x100000000020000000002), (0, 3, 0x10000000001000000000100000000)), (2, (0, 0)))
noncomputable def e_X7_placings_52_3 : zH 1 := (show zT 1 from ((0, 3, 0x100000000020000000002), (0, 3, 0x10000000001000000000100000000)), (2, (0, 0)))
noncomputable abbrev es_X7_placings_52 : List (zEn 1) := [([zR 1, zI 0, zR 2], e_X7_placings_52_0), ([zR 1, zI 1, zR 2], e_X7_placings_52_1), ([zR 1, zI 2, zR 2], e_X7_placings_52_2), ([zR 1, zI 3, zR 2], e_X7_placings_52_3)]
theorem we_X7_placings_52 : zgdR 0 0 (zI 4294967296) (fun f => zfn 6 (b_X7_placingsa f)) es_X7_placings_52 = true := by decide +kernel
theorem ev_X7_placings_52 : zselfR 0 0 (zI 4294967296) es_X7_placings_52 [zR 1, zI 0, zR 2] e_X7_placings_52_0 (zrk (zI 4294967296) e_X7_placings_52_0) = true := by decide +kernel
noncomputable def g_X7_placings_52 {d : Nat} : List zV → zH d → zP d → Bool := zsmy [(0, 0), (0, 2)] [zR 1, zI 0, zR 2] e_X7_placings_52_0 (zI 4294967296) e_X7_placings_52_0
theorem mg_X7_placings_52 {d : Nat} : zMet (d := d) X_X7_placings yX7_placings 9 g_X7_placings_52 := zMet_sm (mr_X7_placingsa es_X7_placings_52 we_X7_placings_52 8 (by decide)) ev_X7_placings_52
noncomputable def e_X7_placings_53_0 : zH 1 := (show zT 1 from ((0, 4, 0x1000000000100000000010000000002), (0, 3, 0x10000000001000000000100000000)), (2, (0, 0)))
noncomputable def e_X7_placings_53_1 : zH 1 := (show zT 1 from ((0, 4, 0x1000000000100000000010000000002), (0, 3, 0x10000000001000000000100000000)), (2, (0, 0)))
noncomputable def e_X7_placings_53_2 : zH 1 := (show zT 1 from ((0, 4, 0x1000000000100000000010000000002), (0, 3, 0x10000000001000000000100000000)), (2, (0, 0)))
noncomputable def e_X7_placings_53_3 : zH 1 := (show zT 1 from ((0, 4, 0x1000000000100000000010000000002), (0, 3, 0x10000000001000000000100000000)), (2, (0, 0)))
noncomputable def e_X7_placings_53_4 : zH 1 := (show zT 1 from ((0, 4, 0x1000000000100000000010000000002), (0, 3, 0x10000000001000000000100000000)), (2, (0, 0)))
noncomputable abbrev es_X7_placings_53 : List (zEn 1) := [([zR 1, zI 0, zR 2], e_X7_placings_53_0), ([zR 1, zI 1, zR 2], e_X7_placings_53_1), ([zR 1, zI 2, zR 2], e_X7_placings_53_2), ([zR 1, zI 3, zR 2], e_X7_placings_53_3), ([zR 1, zI 4, zR 2], e_X7_placings_53_4)]
theorem we_X7_placings_53 : zgdR 0 0 (zI 4294967296) (fun f => zfn 6 (b_X7_placingsa f)) es_X7_placings_53 = true := by decide +kernel
theorem ev_X7_placings_53 : zselfR 0 0 (zI 4294967296) es_X7_placings_53 [zR 1, zI 0, zR 2] e_X7_placings_53_0 (zrk (zI 4294967296) e_X7_placings_53_0) = true := by decide +kernel
noncomputable def g_X7_placings_53 {d : Nat} : List zV → zH d → zP d → Bool := zsmy [(0, 0), (0, 2)] [zR 1, zI 0, zR 2] e_X7_placings_53_0 (zI 4294967296) e_X7_placings_53_0
theorem mg_X7_placings_53 {d : Nat} : zMet (d := d) X_X7_placings yX7_placings 9 g_X7_placings_53 := zMet_sm (mr_X7_placingsa es_X7_placings_53 we_X7_placings_53 8 (by decide)) ev_X7_placings_53
noncomputable def e_X7_placings_54_0 : zH 1 := (show zT 1 from ((0, 5, 0x10000000001000000000100000000010000000001), (0, 3, 0x10000000001000000000100000000)), (2, (0, 0)))
noncomputable def e_X7_placings_54_1 : zH 1 := (show zT 1 from ((0, 5, 0x10000000001000000000100000000010000000001), (0, 3, 0x10000000001000000000100000000)), (2, (0, 0)))
noncomputable def e_X7_placings_54_2 : zH 1 := (show zT 1 from ((0, 5, 0x10000000001000000000100000000010000000001), (0, 3, 0x10000000001000000000100000000)), (2, (0, 0)))
noncomputable def e_X7_placings_54_3 : zH 1 := (show zT 1 from ((0, 5, 0x10000000001000000000100000000010000000001), (0, 3, 0x10000000001000000000100000000)), (2, (0, 0)))
noncomputable def e_X7_placings_54_4 : zH 1 := (show zT 1 from ((0, 5, 0x10000000001000000000100000000010000000001), (0, 3, 0x10000000001000000000100000000)), (2, (0, 0)))
noncomputable def e_X7_placings_54_5 : zH 1 := (show zT 1 from ((0, 5, 0x10000000001000000000100000000010000000001), (0, 3, 0x10000000001000000000100000000)), (2, (0, 0)))
noncomputable abbrev es_X7_placings_54 : List (zEn 1) := [([zR 1, zI 0, zR 2], e_X7_placings_54_0), ([zR 1, zI 1, zR 2], e_X7_placings_54_1), ([zR 1, zI 2, zR 2], e_X7_placings_54_2), ([zR 1, zI 3, zR 2], e_X7_placings_54_3), ([zR 1, zI 4, zR 2], e_X7_placings_54_4), ([zR 1, zI 5, zR 2], e_X7_placings_54_5)]
theorem we_X7_placings_54 : zgdR 0 0 (zI 4294967296) (fun f => zfn 6 (b_X7_placingsa f)) es_X7_placings_54 = true := by decide +kernel
theorem ev_X7_placings_54 : zselfR 0 0 (zI 4294967296) es_X7_placings_54 [zR 1, zI 0, zR 2] e_X7_placings_54_0 (zrk (zI 4294967296) e_X7_placings_54_0) = true := by decide +kernel
noncomputable def g_X7_placings_54 {d : Nat} : List zV → zH d → zP d → Bool := zsmy [(0, 0), (0, 2)] [zR 1, zI 0, zR 2] e_X7_placings_54_0 (zI 4294967296) e_X7_placings_54_0
theorem mg_X7_placings_54 {d : Nat} : zMet (d := d) X_X7_placings yX7_placings 9 g_X7_placings_54 := zMet_sm (mr_X7_placingsa es_X7_placings_54 we_X7_placings_54 8 (by decide)) ev_X7_placings_54
noncomputable def e_X7_placings_55_0 : zH 1 := (show zT 1 from ((0, 1, 5), (0, 4, 0x100000000010000000001000000000100000000)), (2, (0, 0)))
noncomputable def e_X7_placings_55_1 : zH 1 := (show zT 1 from ((0, 1, 5), (0, 4, 0x100000000010000000001000000000100000000)), (2, (0, 0)))
noncomputable abbrev es_X7_placings_55 : List (zEn 1) := [([zR 1, zI 0, zR 2], e_X7_placings_55_0), ([zR 1, zI 1, zR 2], e_X7_placings_55_1)]
theorem we_X7_placings_55 : zgdR 0 0 (zI 4294967296) (fun f => zfn 6 (b_X7_placingsa f)) es_X7_placings_55 = true := by decide +kernel
theorem ev_X7_placings_55 : zselfR 0 0 (zI 4294967296) es_X7_placings_55 [zR 1, zI 0, zR 2] e_X7_placings_55_0 (zrk (zI 4294967296) e_X7_placings_55_0) = true := by decide +kernel
noncomputable def g_X7_placings_55 {d : Nat} : List zV → zH d → zP d → Bool := zsmy [(0, 0), (0, 2)] [zR 1, zI 0, zR 2] e_X7_placings_55_0 (zI 4294967296) e_X7_placings_55_0
theorem mg_X7_placings_55 {d : Nat} : zMet (d := d) X_X7_placings yX7_placings 9 g_X7_placings_55 := zMet_sm (mr_X7_placingsa es_X7_placings_55 we_X7_placings_55 8 (by decide)) ev_X7_placings_55
noncomputable def e_X7_placings_56_0 : zH 1 := (show zT 1 from ((0, 2, 0x10000000004), (0, 4, 0x100000000010000000001000000000100000000)), (2, (0, 0)))
noncomputable def e_X7_placings_56_1 : zH 1 := (show zT 1 from ((0, 2, 0x10000000004), (0, 4, 0x100000000010000000001000000000100000000)), (2, (0, 0)))
noncomputable def e_X7_placings_56_2 : zH 1 := (show zT 1 from ((0, 2, 0x10000000004), (0, 4, 0x100000000010000000001000000000100000000)), (2, (0, 0)))
noncomputable abbrev es_X7_placings_56 : List (zEn 1) := [([zR 1, zI 0, zR 2], e_X7_placings_56_0), ([zR 1, zI 1, zR 2], e_X7_placings_56_1), ([zR 1, zI 2, zR 2], e_X7_placings_56_2)]
theorem we_X7_placings_56 : zgdR 0 0 (zI 4294967296) (fun f => zfn 6 (b_X7_placingsa f)) es_X7_placings_56 = true := by decide +kernel
theorem ev_X7_placings_56 : zselfR 0 0 (zI 4294967296) es_X7_placings_56 [zR 1, zI 0, zR 2] e_X7_placings_56_0 (zrk (zI 4294967296) e_X7_placings_56_0) = true := by decide +kernel
noncomputable def g_X7_placings_56 {d : Nat} : List zV → zH d → zP d → Bool := zsmy [(0, 0), (0, 2)] [zR 1, zI 0, zR 2] e_X7_placings_56_0 (zI 4294967296) e_X7_placings_56_0
theorem mg_X7_placings_56 {d : Nat} : zMet (d := d) X_X7_placings yX7_placings 9 g_X7_placings_56 := zMet_sm (mr_X7_placingsa es_X7_placings_56 we_X7_placings_56 8 (by decide)) ev_X7_placings_56
noncomputable def e_X7_placings_57_0 : zH 1 := (show zT 1 from ((0, 2, 0x20000000003), (0, 4, 0x100000000010000000001000000000100000000)), (2, (0, 0)))
noncomputable def e_X7_placings_57_1 : zH 1 := (show zT 1 from ((0, 2, 0x20000000003), (0, 4, 0x100000000010000000001000000000100000000)), (2, (0, 0)))
noncomputable def e_X7_placings_57_2 : zH 1 := (show zT 1 from ((0, 2, 0x20000000003), (0, 4, 0x100000000010000000001000000000100000000)), (2, (0, 0)))
noncomputable abbrev es_X7_placings_57 : List (zEn 1) := [([zR 1, zI 0, zR 2], e_X7_placings_57_0), ([zR 1, zI 1, zR 2], e_X7_placings_57_1), ([zR 1, zI 2, zR 2], e_X7_placings_57_2)]
theorem we_X7_placings_57 : zgdR 0 0 (zI 4294967296) (fun f => zfn 6 (b_X7_placingsa f)) es_X7_placings_57 = true := by decide +kernel
theorem ev_X7_placings_57 : zselfR 0 0 (zI 4294967296) es_X7_placings_57 [zR 1, zI 0, zR 2] e_X7_placings_57_0 (zrk (zI 4294967296) e_X7_placings_57_0) = true := by decide +kernel
noncomputable def g_X7_placings_57 {d : Nat} : List zV → zH d → zP d → Bool := zsmy [(0, 0), (0, 2)] [zR 1, zI 0, zR 2] e_X7_placings_57_0 (zI 4294967296) e_X7_placings_57_0
theorem mg_X7_placings_57 {d : Nat} : zMet (d := d) X_X7_placings yX7_placings 9 g_X7_placings_57 := zMet_sm (mr_X7_placingsa es_X7_placings_57 we_X7_placings_57 8 (by decide)) ev_X7_placings_57
noncomputable def e_X7_placings_58_0 : zH 1 := (show zT 1 from ((0, 3, 0x100000000010000000003), (0, 4, 0x100000000010000000001000000000100000000)), (2, (0, 0)))
noncomputable def e_X7_placings_58_1 : zH 1 := (show zT 1 from ((0, 3, 0x100000000010000000003), (0, 4, 0x100000000010000000001000000000100000000)), (2, (0, 0)))
noncomputable def e_X7_placings_58_2 : zH 1 := (show zT 1 from ((0, 3, 0x100000000010000000003), (0, 4, 0x100000000010000000001000000000100000000)), (2, (0, 0)))
noncomputable def e_X7_placings_58_3 : zH 1 := (show zT 1 from ((0, 3, 0x100000000010000000003), (0, 4, 0x100000000010000000001000000000100000000)), (2, (0, 0)))
noncomputable abbrev es_X7_placings_58 : List (zEn 1) := [([zR 1, zI 0, zR 2], e_X7_placings_58_0), ([zR 1, zI 1, zR 2], e_X7_placings_58_1), ([zR 1, zI 2, zR 2], e_X7_placings_58_2), ([zR 1, zI 3, zR 2], e_X7_placings_58_3)]
theorem we_X7_placings_58 : zgdR 0 0 (zI 4294967296) (fun f => zfn 6 (b_X7_placingsa f)) es_X7_placings_58 = true := by decide +kernel
theorem ev_X7_placings_58 : zselfR 0 0 (zI 4294967296) es_X7_placings_58 [zR 1, zI 0, zR 2] e_X7_placings_58_0 (zrk (zI 4294967296) e_X7_placings_58_0) = true := by decide +kernel
noncomputable def g_X7_placings_58 {d : Nat} : List zV → zH d → zP d → Bool := zsmy [(0, 0), (0, 2)] [zR 1, zI 0, zR 2] e_X7_placings_58_0 (zI 4294967296) e_X7_placings_58_0
theorem mg_X7_placings_58 {d : Nat} : zMet (d := d) X_X7_placings yX7_placings 9 g_X7_placings_58 := zMet_sm (mr_X7_placingsa es_X7_placings_58 we_X7_placings_58 8 (by decide)) ev_X7_placings_58
noncomputable def e_X7_placings_59_0 : zH 1 := (show zT 1 from ((0, 3, 0x100000000020000000002), (0, 4, 0x100000000010000000001000000000100000000)), (2, (0, 0)))
noncomputable def e_X7_placings_59_1 : zH 1 := (show zT 1 from ((0, 3, 0x100000000020000000002), (0, 4, 0x100000000010000000001000000000100000000)), (2, (0, 0)))
noncomputable def e_X7_placings_59_2 : zH 1 := (show zT 1 from ((0, 3, 0x100000000020000000002), (0, 4, 0x100000000010000000001000000000100000000)), (2, (0, 0)))
noncomputable def e_X7_placings_59_3 : zH 1 := (show zT 1 from ((0, 3, 0x100000000020000000002), (0, 4, 0x100000000010000000001000000000100000000)), (2, (0, 0)))
noncomputable abbrev es_X7_placings_59 : List (zEn 1) := [([zR 1, zI 0, zR 2], e_X7_placings_59_0), ([zR 1, zI 1, zR 2], e_X7_placings_59_1), ([zR 1, zI 2, zR 2], e_X7_placings_59_2), ([zR 1, zI 3, zR 2], e_X7_placings_59_3)]
theorem we_X7_placings_59 : zgdR 0 0 (zI 4294967296) (fun f => zfn 6 (b_X7_placingsa f)) es_X7_placings_59 = true := by decide +kernel
theorem ev_X7_placings_59 : zselfR 0 0 (zI 4294967296) es_X7_placings_59 [zR 1, zI 0, zR 2] e_X7_placings_59_0 (zrk (zI 4294967296) e_X7_placings_59_0) = true := by decide +kernel
noncomputable def g_X7_placings_59 {d : Nat} : List zV → zH d → zP d → Bool := zsmy [(0, 0), (0, 2)] [zR 1, zI 0, zR 2] e_X7_placings_59_0 (zI 4294967296) e_X7_placings_59_0
theorem mg_X7_placings_59 {d : Nat} : zMet (d := d) X_X7_placings yX7_placings 9 g_X7_placings_59 := zMet_sm (mr_X7_placingsa es_X7_placings_59 we_X7_placings_59 8 (by decide)) ev_X7_placings_59
noncomputable def e_X7_placings_60_0 : zH 1 := (show zT 1 from ((0, 4, 0x1000000000100000000010000000002), (0, 4, 0x100000000010000000001000000000100000000)), (2, (0, 0)))
noncomputable def e_X7_placings_60_1 : zH 1 := (show zT 1 from ((0, 4, 0x1000000000100000000010000000002), (0, 4, 0x100000000010000000001000000000100000000)), (2, (0, 0)))
noncomputable def e_X7_placings_60_2 : zH 1 := (show zT 1 from ((0, 4, 0x1000000000100000000010000000002), (0, 4, 0x100000000010000000001000000000100000000)), (2, (0, 0)))
noncomputable def e_X7_placings_60_3 : zH 1 := (show zT 1 from ((0, 4, 0x1000000000100000000010000000002), (0, 4, 0x100000000010000000001000000000100000000)), (2, (0, 0)))
noncomputable def e_X7_placings_60_4 : zH 1 := (show zT 1 from ((0, 4, 0x1000000000100000000010000000002), (0, 4, 0x100000000010000000001000000000100000000)), (2, (0, 0)))
noncomputable abbrev es_X7_placings_60 : List (zEn 1) := [([zR 1, zI 0, zR 2], e_X7_placings_60_0), ([zR 1, zI 1, zR 2], e_X7_placings_60_1), ([zR 1, zI 2, zR 2], e_X7_placings_60_2), ([zR 1, zI 3, zR 2], e_X7_placings_60_3), ([zR 1, zI 4, zR 2], e_X7_placings_60_4)]
theorem we_X7_placings_60 : zgdR 0 0 (zI 4294967296) (fun f => zfn 6 (b_X7_placingsa f)) es_X7_placings_60 = true := by decide +kernel
theorem ev_X7_placings_60 : zselfR 0 0 (zI 4294967296) es_X7_placings_60 [zR 1, zI 0, zR 2] e_X7_placings_60_0 (zrk (zI 4294967296) e_X7_placings_60_0) = true := by decide +kernel
noncomputable def g_X7_placings_60 {d : Nat} : List zV → zH d → zP d → Bool := zsmy [(0, 0), (0, 2)] [zR 1, zI 0, zR 2] e_X7_placings_60_0 (zI 4294967296) e_X7_placings_60_0
theorem mg_X7_placings_60 {d : Nat} : zMet (d := d) X_X7_placings yX7_placings 9 g_X7_placings_60 := zMet_sm (mr_X7_placingsa es_X7_placings_60 we_X7_placings_60 8 (by decide)) ev_X7_placings_60
noncomputable def e_X7_placings_61_0 : zH 1 := (show zT 1 from ((0, 5, 0x10000000001000000000100000000010000000001), (0, 4, 0x100000000010000000001000000000100000000)), (2, (0, 0)))
noncomputable def e_X7_placings_61_1 : zH 1 := (show zT 1 from ((0, 5, 0x10000000001000000000100000000010000000001), (0, 4, 0x100000000010000000001000000000100000000)), (2, (0, 0)))
noncomputable def e_X7_placings_61_2 : zH 1 := (show zT 1 from ((0, 5, 0x10000000001000000000100000000010000000001), (0, 4, 0x100000000010000000001000000000100000000)), (2, (0, 0)))
noncomputable def e_X7_placings_61_3 : zH 1 := (show zT 1 from ((0, 5, 0x10000000001000000000100000000010000000001), (0, 4, 0x100000000010000000001000000000100000000)), (2, (0, 0)))
noncomputable def e_X7_placings_61_4 : zH 1 := (show zT 1 from ((0, 5, 0x10000000001000000000100000000010000000001), (0, 4, 0x100000000010000000001000000000100000000)), (2, (0, 0)))
noncomputable def e_X7_placings_61_5 : zH 1 := (show zT 1 from ((0, 5, 0x10000000001000000000100000000010000000001), (0, 4, 0x100000000010000000001000000000100000000)), (2, (0, 0)))
noncomputable abbrev es_X7_placings_61 : List (zEn 1) := [([zR 1, zI 0, zR 2], e_X7_placings_61_0), ([zR 1, zI 1, zR 2], e_X7_placings_61_1), ([zR 1, zI 2, zR 2], e_X7_placings_61_2), ([zR 1, zI 3, zR 2], e_X7_placings_61_3), ([zR 1, zI 4, zR 2], e_X7_placings_61_4), ([zR 1, zI 5, zR 2], e_X7_placings_61_5)]
theorem we_X7_placings_61 : zgdR 0 0 (zI 4294967296) (fun f => zfn 6 (b_X7_placingsa f)) es_X7_placings_61 = true := by decide +kernel
theorem ev_X7_placings_61 : zselfR 0 0 (zI 4294967296) es_X7_placings_61 [zR 1, zI 0, zR 2] e_X7_placings_61_0 (zrk (zI 4294967296) e_X7_placings_61_0) = true := by decide +kernel
noncomputable def g_X7_placings_61 {d : Nat} : List zV → zH d → zP d → Bool := zsmy [(0, 0), (0, 2)] [zR 1, zI 0, zR 2] e_X7_placings_61_0 (zI 4294967296) e_X7_placings_61_0
theorem mg_X7_placings_61 {d : Nat} : zMet (d := d) X_X7_placings yX7_placings 9 g_X7_placings_61 := zMet_sm (mr_X7_placingsa es_X7_placings_61 we_X7_placings_61 8 (by decide)) ev_X7_placings_61
noncomputable def e_X7_placings_62_0 : zH 1 := (show zT 1 from ((0, 1, 5), (0, 5, 0x1000000000100000000010000000001000000000100000000)), (2, (0, 0)))
noncomputable def e_X7_placings_62_1 : zH 1 := (show zT 1 from ((0, 1, 5), (0, 5, 0x1000000000100000000010000000001000000000100000000)), (2, (0, 0)))
noncomputable abbrev es_X7_placings_62 : List (zEn 1) := [([zR 1, zI 0, zR 2], e_X7_placings_62_0), ([zR 1, zI 1, zR 2], e_X7_placings_62_1)]
theorem we_X7_placings_62 : zgdR 0 0 (zI 4294967296) (fun f => zfn 6 (b_X7_placingsa f)) es_X7_placings_62 = true := by decide +kernel
theorem ev_X7_placings_62 : zselfR 0 0 (zI 4294967296) es_X7_placings_62 [zR 1, zI 0, zR 2] e_X7_placings_62_0 (zrk (zI 4294967296) e_X7_placings_62_0) = true := by decide +kernel
noncomputable def g_X7_placings_62 {d : Nat} : List zV → zH d → zP d → Bool := zsmy [(0, 0), (0, 2)] [zR 1, zI 0, zR 2] e_X7_placings_62_0 (zI 4294967296) e_X7_placings_62_0
theorem mg_X7_placings_62 {d : Nat} : zMet (d := d) X_X7_placings yX7_placings 9 g_X7_placings_62 := zMet_sm (mr_X7_placingsa es_X7_placings_62 we_X7_placings_62 8 (by decide)) ev_X7_placings_62
noncomputable def e_X7_placings_63_0 : zH 1 := (show zT 1 from ((0, 2, 0x10000000004), (0, 5, 0x1000000000100000000010000000001000000000100000000)), (2, (0, 0)))
noncomputable def e_X7_placings_63_1 : zH 1 := (show zT 1 from ((0, 2, 0x10000000004), (0, 5, 0x1000000000100000000010000000001000000000100000000)), (2, (0, 0)))
noncomputable def e_X7_placings_63_2 : zH 1 := (show zT 1 from ((0, 2, 0x10000000004), (0, 5, 0x1000000000100000000010000000001000000000100000000)), (2, (0, 0)))
noncomputable abbrev es_X7_placings_63 : List (zEn 1) := [([zR 1, zI 0, zR 2], e_X7_placings_63_0), ([zR 1, zI 1, zR 2], e_X7_placings_63_1), ([zR 1, zI 2, zR 2], e_X7_placings_63_2)]
theorem we_X7_placings_63 : zgdR 0 0 (zI 4294967296) (fun f => zfn 6 (b_X7_placingsa f)) es_X7_placings_63 = true := by decide +kernel
theorem ev_X7_placings_63 : zselfR 0 0 (zI 4294967296) es_X7_placings_63 [zR 1, zI 0, zR 2] e_X7_placings_63_0 (zrk (zI 4294967296) e_X7_placings_63_0) = true := by decide +kernel
noncomputable def g_X7_placings_63 {d : Nat} : List zV → zH d → zP d → Bool := zsmy [(0, 0), (0, 2)] [zR 1, zI 0, zR 2] e_X7_placings_63_0 (zI 4294967296) e_X7_placings_63_0
theorem mg_X7_placings_63 {d : Nat} : zMet (d := d) X_X7_placings yX7_placings 9 g_X7_placings_63 := zMet_sm (mr_X7_placingsa es_X7_placings_63 we_X7_placings_63 8 (by decide)) ev_X7_placings_63
noncomputable def e_X7_placings_64_0 : zH 1 := (show zT 1 from ((0, 2, 0x20000000003), (0, 5, 0x1000000000100000000010000000001000000000100000000)), (2, (0, 0)))
noncomputable def e_X7_placings_64_1 : zH 1 := (show zT 1 from ((0, 2, 0x20000000003), (0, 5, 0x1000000000100000000010000000001000000000100000000)), (2, (0, 0)))
noncomputable def e_X7_placings_64_2 : zH 1 := (show zT 1 from ((0, 2, 0x20000000003), (0, 5, 0x1000000000100000000010000000001000000000100000000)), (2, (0, 0)))
noncomputable abbrev es_X7_placings_64 : List (zEn 1) := [([zR 1, zI 0, zR 2], e_X7_placings_64_0), ([zR 1, zI 1, zR 2], e_X7_placings_64_1), ([zR 1, zI 2, zR 2], e_X7_placings_64_2)]
theorem we_X7_placings_64 : zgdR 0 0 (zI 4294967296) (fun f => zfn 6 (b_X7_placingsa f)) es_X7_placings_64 = true := by decide +kernel
theorem ev_X7_placings_64 : zselfR 0 0 (zI 4294967296) es_X7_placings_64 [zR 1, zI 0, zR 2] e_X7_placings_64_0 (zrk (zI 4294967296) e_X7_placings_64_0) = true := by decide +kernel
noncomputable def g_X7_placings_64 {d : Nat} : List zV → zH d → zP d → Bool := zsmy [(0, 0), (0, 2)] [zR 1, zI 0, zR 2] e_X7_placings_64_0 (zI 4294967296) e_X7_placings_64_0
theorem mg_X7_placings_64 {d : Nat} : zMet (d := d) X_X7_placings yX7_placings 9 g_X7_placings_64 := zMet_sm (mr_X7_placingsa es_X7_placings_64 we_X7_placings_64 8 (by decide)) ev_X7_placings_64
noncomputable def e_X7_placings_65_0 : zH 1 := (show zT 1 from ((0, 3, 0x100000000010000000003), (0, 5, 0x1000000000100000000010000000001000000000100000000)), (2, (0, 0)))
noncomputable def e_X7_placings_65_1 : zH 1 := (show zT 1 from ((0, 3, 0x100000000010000000003), (0, 5, 0x1000000000100000000010000000001000000000100000000)), (2, (0, 0)))
noncomputable def e_X7_placings_65_2 : zH 1 := (show zT 1 from ((0, 3, 0x100000000010000000003), (0, 5, 0x1000000000100000000010000000001000000000100000000)), (2, (0, 0)))
noncomputable def e_X7_placings_65_3 : zH 1 := (show zT 1 from ((0, 3, 0x100000000010000000003), (0, 5, 0x1000000000100000000010000000001000000000100000000)), (2, (0, 0)))
noncomputable abbrev es_X7_placings_65 : List (zEn 1) := [([zR 1, zI 0, zR 2], e_X7_placings_65_0), ([zR 1, zI 1, zR 2], e_X7_placings_65_1), ([zR 1, zI 2, zR 2], e_X7_placings_65_2), ([zR 1, zI 3, zR 2], e_X7_placings_65_3)]
theorem we_X7_placings_65 : zgdR 0 0 (zI 4294967296) (fun f => zfn 6 (b_X7_placingsa f)) es_X7_placings_65 = true := by decide +kernel
theorem ev_X7_placings_65 : zselfR 0 0 (zI 4294967296) es_X7_placings_65 [zR 1, zI 0, zR 2] e_X7_placings_65_0 (zrk (zI 4294967296) e_X7_placings_65_0) = true := by decide +kernel
noncomputable def g_X7_placings_65 {d : Nat} : List zV → zH d → zP d → Bool := zsmy [(0, 0), (0, 2)] [zR 1, zI 0, zR 2] e_X7_placings_65_0 (zI 4294967296) e_X7_placings_65_0
theorem mg_X7_placings_65 {d : Nat} : zMet (d := d) X_X7_placings yX7_placings 9 g_X7_placings_65 := zMet_sm (mr_X7_placingsa es_X7_placings_65 we_X7_placings_65 8 (by decide)) ev_X7_placings_65
noncomputable def e_X7_placings_66_0 : zH 1 := (show zT 1 from ((0, 3, 0x100000000020000000002), (0, 5, 0x1000000000100000000010000000001000000000100000000)), (2, (0, 0)))
noncomputable def e_X7_placings_66_1 : zH 1 := (show zT 1 from ((0, 3, 0x100000000020000000002), (0, 5, 0x1000000000100000000010000000001000000000100000000)), (2, (0, 0)))
noncomputable def e_X7_placings_66_2 : zH 1 := (show zT 1 from ((0, 3, 0x100000000020000000002), (0, 5, 0x1000000000100000000010000000001000000000100000000)), (2, (0, 0)))
noncomputable def e_X7_placings_66_3 : zH 1 := (show zT 1 from ((0, 3, 0x100000000020000000002), (0, 5, 0x1000000000100000000010000000001000000000100000000)), (2, (0, 0)))
noncomputable abbrev es_X7_placings_66 : List (zEn 1) := [([zR 1, zI 0, zR 2], e_X7_placings_66_0), ([zR 1, zI 1, zR 2], e_X7_placings_66_1), ([zR 1, zI 2, zR 2], e_X7_placings_66_2), ([zR 1, zI 3, zR 2], e_X7_placings_66_3)]
theorem we_X7_placings_66 : zgdR 0 0 (zI 4294967296) (fun f => zfn 6 (b_X7_placingsa f)) es_X7_placings_66 = true := by decide +kernel
theorem ev_X7_placings_66 : zselfR 0 0 (zI 4294967296) es_X7_placings_66 [zR 1, zI 0, zR 2] e_X7_placings_66_0 (zrk (zI 4294967296) e_X7_placings_66_0) = true := by decide +kernel
noncomputable def g_X7_placings_66 {d : Nat} : List zV → zH d → zP d → Bool := zsmy [(0, 0), (0, 2)] [zR 1, zI 0, zR 2] e_X7_placings_66_0 (zI 4294967296) e_X7_placings_66_0
theorem mg_X7_placings_66 {d : Nat} : zMet (d := d) X_X7_placings yX7_placings 9 g_X7_placings_66 := zMet_sm (mr_X7_placingsa es_X7_placings_66 we_X7_placings_66 8 (by decide)) ev_X7_placings_66
noncomputable def e_X7_placings_67_0 : zH 1 := (show zT 1 from ((0, 4, 0x1000000000100000000010000000002), (0, 5, 0x1000000000100000000010000000001000000000100000000)), (2, (0, 0)))
noncomputable def e_X7_placings_67_1 : zH 1 := (show zT 1 from ((0, 4, 0x1000000000100000000010000000002), (0, 5, 0x1000000000100000000010000000001000000000100000000)), (2, (0, 0)))
noncomputable def e_X7_placings_67_2 : zH 1 := (show zT 1 from ((0, 4, 0x1000000000100000000010000000002), (0, 5, 0x1000000000100000000010000000001000000000100000000)), (2, (0, 0)))
noncomputable def e_X7_placings_67_3 : zH 1 := (show zT 1 from ((0, 4, 0x1000000000100000000010000000002), (0, 5, 0x1000000000100000000010000000001000000000100000000)), (2, (0, 0)))
noncomputable def e_X7_placings_67_4 : zH 1 := (show zT 1 from ((0, 4, 0x1000000000100000000010000000002), (0, 5, 0x1000000000100000000010000000001000000000100000000)), (2, (0, 0)))
noncomputable abbrev es_X7_placings_67 : List (zEn 1) := [([zR 1, zI 0, zR 2], e_X7_placings_67_0), ([zR 1, zI 1, zR 2], e_X7_placings_67_1), ([zR 1, zI 2, zR 2], e_X7_placings_67_2), ([zR 1, zI 3, zR 2], e_X7_placings_67_3), ([zR 1, zI 4, zR 2], e_X7_placings_67_4)]
theorem we_X7_placings_67 : zgdR 0 0 (zI 4294967296) (fun f => zfn 6 (b_X7_placingsa f)) es_X7_placings_67 = true := by decide +kernel
theorem ev_X7_placings_67 : zselfR 0 0 (zI 4294967296) es_X7_placings_67 [zR 1, zI 0, zR 2] e_X7_placings_67_0 (zrk (zI 4294967296) e_X7_placings_67_0) = true := by decide +kernel
noncomputable def g_X7_placings_67 {d : Nat} : List zV → zH d → zP d → Bool := zsmy [(0, 0), (0, 2)] [zR 1, zI 0, zR 2] e_X7_placings_67_0 (zI 4294967296) e_X7_placings_67_0
theorem mg_X7_placings_67 {d : Nat} : zMet (d := d) X_X7_placings yX7_placings 9 g_X7_placings_67 := zMet_sm (mr_X7_placingsa es_X7_placings_67 we_X7_placings_67 8 (by decide)) ev_X7_placings_67
noncomputable def e_X7_placings_68_0 : zH 1 := (show zT 1 from ((0, 5, 0x10000000001000000000100000000010000000001), (0, 5, 0x1000000000100000000010000000001000000000100000000)), (2, (0, 0)))
noncomputable def e_X7_placings_68_1 : zH 1 := (show zT 1 from ((0, 5, 0x10000000001000000000100000000010000000001), (0, 5, 0x1000000000100000000010000000001000000000100000000)), (2, (0, 0)))
noncomputable def e_X7_placings_68_2 : zH 1 := (show zT 1 from ((0, 5, 0x10000000001000000000100000000010000000001), (0, 5, 0x1000000000100000000010000000001000000000100000000)), (2, (0, 0)))
noncomputable def e_X7_placings_68_3 : zH 1 := (show zT 1 from ((0, 5, 0x10000000001000000000100000000010000000001), (0, 5, 0x1000000000100000000010000000001000000000100000000)), (2, (0, 0)))
noncomputable def e_X7_placings_68_4 : zH 1 := (show zT 1 from ((0, 5, 0x10000000001000000000100000000010000000001), (0, 5, 0x1000000000100000000010000000001000000000100000000)), (2, (0, 0)))
noncomputable def e_X7_placings_68_5 : zH 1 := (show zT 1 from ((0, 5, 0x10000000001000000000100000000010000000001), (0, 5, 0x1000000000100000000010000000001000000000100000000)), (2, (0, 0)))
noncomputable abbrev es_X7_placings_68 : List (zEn 1) := [([zR 1, zI 0, zR 2], e_X7_placings_68_0), ([zR 1, zI 1, zR 2], e_X7_placings_68_1), ([zR 1, zI 2, zR 2], e_X7_placings_68_2), ([zR 1, zI 3, zR 2], e_X7_placings_68_3), ([zR 1, zI 4, zR 2], e_X7_placings_68_4), ([zR 1, zI 5, zR 2], e_X7_placings_68_5)]
theorem we_X7_placings_68 : zgdR 0 0 (zI 4294967296) (fun f => zfn 6 (b_X7_placingsa f)) es_X7_placings_68 = true := by decide +kernel
theorem ev_X7_placings_68 : zselfR 0 0 (zI 4294967296) es_X7_placings_68 [zR 1, zI 0, zR 2] e_X7_placings_68_0 (zrk (zI 4294967296) e_X7_placings_68_0) = true := by decide +kernel
noncomputable def g_X7_placings_68 {d : Nat} : List zV → zH d → zP d → Bool := zsmy [(0, 0), (0, 2)] [zR 1, zI 0, zR 2] e_X7_placings_68_0 (zI 4294967296) e_X7_placings_68_0
theorem mg_X7_placings_68 {d : Nat} : zMet (d := d) X_X7_placings yX7_placings 9 g_X7_placings_68 := zMet_sm (mr_X7_placingsa es_X7_placings_68 we_X7_placings_68 8 (by decide)) ev_X7_placings_68
noncomputable def e_X7_placings_69_0 : zH 1 := (show zT 1 from ((0, 1, 6), (0, 1, 0x100000000)), (2, (0, 0)))
noncomputable def e_X7_placings_69_1 : zH 1 := (show zT 1 from ((0, 1, 6), (0, 1, 0x100000000)), (2, (0, 0)))
noncomputable abbrev es_X7_placings_69 : List (zEn 1) := [([zR 1, zI 0, zR 2], e_X7_placings_69_0), ([zR 1, zI 1, zR 2], e_X7_placings_69_1)]
theorem we_X7_placings_69 : zgdR 0 0 (zI 4294967296) (fun f => zfn 6 (b_X7_placingsa f)) es_X7_placings_69 = true := by decide +kernel
theorem ev_X7_placings_69 : zselfR 0 0 (zI 4294967296) es_X7_placings_69 [zR 1, zI 0, zR 2] e_X7_placings_69_0 (zrk (zI 4294967296) e_X7_placings_69_0) = true := by decide +kernel
noncomputable def g_X7_placings_69 {d : Nat} : List zV → zH d → zP d → Bool := zsmy [(0, 0), (0, 2)] [zR 1, zI 0, zR 2] e_X7_placings_69_0 (zI 4294967296) e_X7_placings_69_0
theorem mg_X7_placings_69 {d : Nat} : zMet (d := d) X_X7_placings yX7_placings 9 g_X7_placings_69 := zMet_sm (mr_X7_placingsa es_X7_placings_69 we_X7_placings_69 8 (by decide)) ev_X7_placings_69
noncomputable def e_X7_placings_70_0 : zH 1 := (show zT 1 from ((0, 2, 0x10000000005), (0, 1, 0x100000000)), (2, (0, 0)))
noncomputable def e_X7_placings_70_1 : zH 1 := (show zT 1 from ((0, 2, 0x10000000005), (0, 1, 0x100000000)), (2, (0, 0)))
noncomputable def e_X7_placings_70_2 : zH 1 := (show zT 1 from ((0, 2, 0x10000000005), (0, 1, 0x100000000)), (2, (0, 0)))
noncomputable abbrev es_X7_placings_70 : List (zEn 1) := [([zR 1, zI 0, zR 2], e_X7_placings_70_0), ([zR 1, zI 1, zR 2], e_X7_placings_70_1), ([zR 1, zI 2, zR 2], e_X7_placings_70_2)]
theorem we_X7_placings_70 : zgdR 0 0 (zI 4294967296) (fun f => zfn 6 (b_X7_placingsa f)) es_X7_placings_70 = true := by decide +kernel
theorem ev_X7_placings_70 : zselfR 0 0 (zI 4294967296) es_X7_placings_70 [zR 1, zI 0, zR 2] e_X7_placings_70_0 (zrk (zI 4294967296) e_X7_placings_70_0) = true := by decide +kernel
noncomputable def g_X7_placings_70 {d : Nat} : List zV → zH d → zP d → Bool := zsmy [(0, 0), (0, 2)] [zR 1, zI 0, zR 2] e_X7_placings_70_0 (zI 4294967296) e_X7_placings_70_0
theorem mg_X7_placings_70 {d : Nat} : zMet (d := d) X_X7_placings yX7_placings 9 g_X7_placings_70 := zMet_sm (mr_X7_placingsa es_X7_placings_70 we_X7_placings_70 8 (by decide)) ev_X7_placings_70
noncomputable def e_X7_placings_71_0 : zH 1 := (show zT 1 from ((0, 2, 0x20000000004), (0, 1, 0x100000000)), (2, (0, 0)))
noncomputable def e_X7_placings_71_1 : zH 1 := (show zT 1 from ((0, 2, 0x20000000004), (0, 1, 0x100000000)), (2, (0, 0)))
noncomputable def e_X7_placings_71_2 : zH 1 := (show zT 1 from ((0, 2, 0x20000000004), (0, 1, 0x100000000)), (2, (0, 0)))
noncomputable abbrev es_X7_placings_71 : List (zEn 1) := [([zR 1, zI 0, zR 2], e_X7_placings_71_0), ([zR 1, zI 1, zR 2], e_X7_placings_71_1), ([zR 1, zI 2, zR 2], e_X7_placings_71_2)]
theorem we_X7_placings_71 : zgdR 0 0 (zI 4294967296) (fun f => zfn 6 (b_X7_placingsa f)) es_X7_placings_71 = true := by decide +kernel
theorem ev_X7_placings_71 : zselfR 0 0 (zI 4294967296) es_X7_placings_71 [zR 1, zI 0, zR 2] e_X7_placings_71_0 (zrk (zI 4294967296) e_X7_placings_71_0) = true := by decide +kernel
noncomputable def g_X7_placings_71 {d : Nat} : List zV → zH d → zP d → Bool := zsmy [(0, 0), (0, 2)] [zR 1, zI 0, zR 2] e_X7_placings_71_0 (zI 4294967296) e_X7_placings_71_0
theorem mg_X7_placings_71 {d : Nat} : zMet (d := d) X_X7_placings yX7_placings 9 g_X7_placings_71 := zMet_sm (mr_X7_placingsa es_X7_placings_71 we_X7_placings_71 8 (by decide)) ev_X7_placings_71
noncomputable def e_X7_placings_72_0 : zH 1 := (show zT 1 from ((0, 3, 0x100000000010000000004), (0, 1, 0x100000000)), (2, (0, 0)))
noncomputable def e_X7_placings_72_1 : zH 1 := (show zT 1 from ((0, 3, 0x100000000010000000004), (0, 1, 0x100000000)), (2, (0, 0)))
noncomputable def e_X7_placings_72_2 : zH 1 := (show zT 1 from ((0, 3, 0x100000000010000000004), (0, 1, 0x100000000)), (2, (0, 0)))
noncomputable def e_X7_placings_72_3 : zH 1 := (show zT 1 from ((0, 3, 0x100000000010000000004), (0, 1, 0x100000000)), (2, (0, 0)))
noncomputable abbrev es_X7_placings_72 : List (zEn 1) := [([zR 1, zI 0, zR 2], e_X7_placings_72_0), ([zR 1, zI 1, zR 2], e_X7_placings_72_1), ([zR 1, zI 2, zR 2], e_X7_placings_72_2), ([zR 1, zI 3, zR 2], e_X7_placings_72_3)]
theorem we_X7_placings_72 : zgdR 0 0 (zI 4294967296) (fun f => zfn 6 (b_X7_placingsa f)) es_X7_placings_72 = true := by decide +kernel
theorem ev_X7_placings_72 : zselfR 0 0 (zI 4294967296) es_X7_placings_72 [zR 1, zI 0, zR 2] e_X7_placings_72_0 (zrk (zI 4294967296) e_X7_placings_72_0) = true := by decide +kernel
noncomputable def g_X7_placings_72 {d : Nat} : List zV → zH d → zP d → Bool := zsmy [(0, 0), (0, 2)] [zR 1, zI 0, zR 2] e_X7_placings_72_0 (zI 4294967296) e_X7_placings_72_0
theorem mg_X7_placings_72 {d : Nat} : zMet (d := d) X_X7_placings yX7_placings 9 g_X7_placings_72 := zMet_sm (mr_X7_placingsa es_X7_placings_72 we_X7_placings_72 8 (by decide)) ev_X7_placings_72
noncomputable def e_X7_placings_73_0 : zH 1 := (show zT 1 from ((0, 2, 0x30000000003), (0, 1, 0x100000000)), (2, (0, 0)))
noncomputable def e_X7_placings_73_1 : zH 1 := (show zT 1 from ((0, 2, 0x30000000003), (0, 1, 0x100000000)), (2, (0, 0)))
noncomputable def e_X7_placings_73_2 : zH 1 := (show zT 1 from ((0, 2, 0x30000000003), (0, 1, 0x100000000)), (2, (0, 0)))
noncomputable abbrev es_X7_placings_73 : List (zEn 1) := [([zR 1, zI 0, zR 2], e_X7_placings_73_0), ([zR 1, zI 1, zR 2], e_X7_placings_73_1), ([zR 1, zI 2, zR 2], e_X7_placings_73_2)]
theorem we_X7_placings_73 : zgdR 0 0 (zI 4294967296) (fun f => zfn 6 (b_X7_placingsa f)) es_X7_placings_73 = true := by decide +kernel
theorem ev_X7_placings_73 : zselfR 0 0 (zI 4294967296) es_X7_placings_73 [zR 1, zI 0, zR 2] e_X7_placings_73_0 (zrk (zI 4294967296) e_X7_placings_73_0) = true := by decide +kernel
noncomputable def g_X7_placings_73 {d : Nat} : List zV → zH d → zP d → Bool := zsmy [(0, 0), (0, 2)] [zR 1, zI 0, zR 2] e_X7_placings_73_0 (zI 4294967296) e_X7_placings_73_0
theorem mg_X7_placings_73 {d : Nat} : zMet (d := d) X_X7_placings yX7_placings 9 g_X7_placings_73 := zMet_sm (mr_X7_placingsa es_X7_placings_73 we_X7_placings_73 8 (by decide)) ev_X7_placings_73
noncomputable def e_X7_placings_74_0 : zH 1 := (show zT 1 from ((0, 3, 0x100000000020000000003), (0, 1, 0x100000000)), (2, (0, 0)))
noncomputable def e_X7_placings_74_1 : zH 1 := (show zT 1 from ((0, 3, 0x100000000020000000003), (0, 1, 0x100000000)), (2, (0, 0)))
noncomputable def e_X7_placings_74_2 : zH 1 := (show zT 1 from ((0, 3, 0x100000000020000000003), (0, 1, 0x100000000)), (2, (0, 0)))
noncomputable def e_X7_placings_74_3 : zH 1 := (show zT 1 from ((0, 3, 0x100000000020000000003), (0, 1, 0x100000000)), (2, (0, 0)))
noncomputable abbrev es_X7_placings_74 : List (zEn 1) := [([zR 1, zI 0, zR 2], e_X7_placings_74_0), ([zR 1, zI 1, zR 2], e_X7_placings_74_1), ([zR 1, zI 2, zR 2], e_X7_placings_74_2), ([zR 1, zI 3, zR 2], e_X7_placings_74_3)]
theorem we_X7_placings_74 : zgdR 0 0 (zI 4294967296) (fun f => zfn 6 (b_X7_placingsa f)) es_X7_placings_74 = true := by decide +kernel
theorem ev_X7_placings_74 : zselfR 0 0 (zI 4294967296) es_X7_placings_74 [zR 1, zI 0, zR 2] e_X7_placings_74_0 (zrk (zI 4294967296) e_X7_placings_74_0) = true := by decide +kernel
noncomputable def g_X7_placings_74 {d : Nat} : List zV → zH d → zP d → Bool := zsmy [(0, 0), (0, 2)] [zR 1, zI 0, zR 2] e_X7_placings_74_0 (zI 4294967296) e_X7_placings_74_0
theorem mg_X7_placings_74 {d : Nat} : zMet (d := d) X_X7_placings yX7_placings 9 g_X7_placings_74 := zMet_sm (mr_X7_placingsa es_X7_placings_74 we_X7_placings_74 8 (by decide)) ev_X7_placings_74
noncomputable def e_X7_placings_75_0 : zH 1 := (show zT 1 from ((0, 4, 0x1000000000100000000010000000003), (0, 1, 0x100000000)), (2, (0, 0)))
noncomputable def e_X7_placings_75_1 : zH 1 := (show zT 1 from ((0, 4, 0x1000000000100000000010000000003), (0, 1, 0x100000000)), (2, (0, 0)))
noncomputable def e_X7_placings_75_2 : zH 1 := (show zT 1 from ((0, 4, 0x1000000000100000000010000000003), (0, 1, 0x100000000)), (2, (0, 0)))
noncomputable def e_X7_placings_75_3 : zH 1 := (show zT 1 from ((0, 4, 0x1000000000100000000010000000003), (0, 1, 0x100000000)), (2, (0, 0)))
noncomputable def e_X7_placings_75_4 : zH 1 := (show zT 1 from ((0, 4, 0x1000000000100000000010000000003), (0, 1, 0x100000000)), (2, (0, 0)))
noncomputable abbrev es_X7_placings_75 : List (zEn 1) := [([zR 1, zI 0, zR 2], e_X7_placings_75_0), ([zR 1, zI 1, zR 2], e_X7_placings_75_1), ([zR 1, zI 2, zR 2], e_X7_placings_75_2), ([zR 1, zI 3, zR 2], e_X7_placings_75_3), ([zR 1, zI 4, zR 2], e_X7_placings_75_4)]
theorem we_X7_placings_75 : zgdR 0 0 (zI 4294967296) (fun f => zfn 6 (b_X7_placingsa f)) es_X7_placings_75 = true := by decide +kernel
theorem ev_X7_placings_75 : zselfR 0 0 (zI 4294967296) es_X7_placings_75 [zR 1, zI 0, zR 2] e_X7_placings_75_0 (zrk (zI 4294967296) e_X7_placings_75_0) = true := by decide +kernel
noncomputable def g_X7_placings_75 {d : Nat} : List zV → zH d → zP d → Bool := zsmy [(0, 0), (0, 2)] [zR 1, zI 0, zR 2] e_X7_placings_75_0 (zI 4294967296) e_X7_placings_75_0
theorem mg_X7_placings_75 {d : Nat} : zMet (d := d) X_X7_placings yX7_placings 9 g_X7_placings_75 := zMet_sm (mr_X7_placingsa es_X7_placings_75 we_X7_placings_75 8 (by decide)) ev_X7_placings_75
noncomputable def e_X7_placings_76_0 : zH 1 := (show zT 1 from ((0, 3, 0x200000000020000000002), (0, 1, 0x100000000)), (2, (0, 0)))
noncomputable def e_X7_placings_76_1 : zH 1 := (show zT 1 from ((0, 3, 0x200000000020000000002), (0, 1, 0x100000000)), (2, (0, 0)))
noncomputable def e_X7_placings_76_2 : zH 1 := (show zT 1 from ((0, 3, 0x200000000020000000002), (0, 1, 0x100000000)), (2, (0, 0)))
noncomputable def e_X7_placings_76_3 : zH 1 := (show zT 1 from ((0, 3, 0x200000000020000000002), (0, 1, 0x100000000)), (2, (0, 0)))
noncomputable abbrev es_X7_placings_76 : List (zEn 1) := [([zR 1, zI 0, zR 2], e_X7_placings_76_0), ([zR 1, zI 1, zR 2], e_X7_placings_76_1), ([zR 1, zI 2, zR 2], e_X7_placings_76_2), ([zR 1, zI 3, zR 2], e_X7_placings_76_3)]
theorem we_X7_placings_76 : zgdR 0 0 (zI 4294967296) (fun f => zfn 6 (b_X7_placingsa f)) es_X7_placings_76 = true := by decide +kernel
theorem ev_X7_placings_76 : zselfR 0 0 (zI 4294967296) es_X7_placings_76 [zR 1, zI 0, zR 2] e_X7_placings_76_0 (zrk (zI 4294967296) e_X7_placings_76_0) = true := by decide +kernel
noncomputable def g_X7_placings_76 {d : Nat} : List zV → zH d → zP d → Bool := zsmy [(0, 0), (0, 2)] [zR 1, zI 0, zR 2] e_X7_placings_76_0 (zI 4294967296) e_X7_placings_76_0
theorem mg_X7_placings_76 {d : Nat} : zMet (d := d) X_X7_placings yX7_placings 9 g_X7_placings_76 := zMet_sm (mr_X7_placingsa es_X7_placings_76 we_X7_placings_76 8 (by decide)) ev_X7_placings_76
noncomputable def e_X7_placings_77_0 : zH 1 := (show zT 1 from ((0, 4, 0x1000000000100000000020000000002), (0, 1, 0x100000000)), (2, (0, 0)))
noncomputable def e_X7_placings_77_1 : zH 1 := (show zT 1 from ((0, 4, 0x1000000000100000000020000000002), (0, 1, 0x100000000)), (2, (0, 0)))
noncomputable def e_X7_placings_77_2 : zH 1 := (show zT 1 from ((0, 4, 0x1000000000100000000020000000002), (0, 1, 0x100000000)), (2, (0, 0)))
noncomputable def e_X7_placings_77_3 : zH 1 := (show zT 1 from ((0, 4, 0x1000000000100000000020000000002), (0, 1, 0x100000000)), (2, (0, 0)))
noncomputable def e_X7_placings_77_4 : zH 1 := (show zT 1 from ((0, 4, 0x1000000000100000000020000000002), (0, 1, 0x100000000)), (2, (0, 0)))
noncomputable abbrev es_X7_placings_77 : List (zEn 1) := [([zR 1, zI 0, zR 2], e_X7_placings_77_0), ([zR 1, zI 1, zR 2], e_X7_placings_77_1), ([zR 1, zI 2, zR 2], e_X7_placings_77_2), ([zR 1, zI 3, zR 2], e_X7_placings_77_3), ([zR 1, zI 4, zR 2], e_X7_placings_77_4)]
theorem we_X7_placings_77 : zgdR 0 0 (zI 4294967296) (fun f => zfn 6 (b_X7_placingsa f)) es_X7_placings_77 = true := by decide +kernel
theorem ev_X7_placings_77 : zselfR 0 0 (zI 4294967296) es_X7_placings_77 [zR 1, zI 0, zR 2] e_X7_placings_77_0 (zrk (zI 4294967296) e_X7_placings_77_0) = true := by decide +kernel
noncomputable def g_X7_placings_77 {d : Nat} : List zV → zH d → zP d → Bool := zsmy [(0, 0), (0, 2)] [zR 1, zI 0, zR 2] e_X7_placings_77_0 (zI 4294967296) e_X7_placings_77_0
theorem mg_X7_placings_77 {d : Nat} : zMet (d := d) X_X7_placings yX7_placings 9 g_X7_placings_77 := zMet_sm (mr_X7_placingsa es_X7_placings_77 we_X7_placings_77 8 (by decide)) ev_X7_placings_77
noncomputable def e_X7_placings_78_0 : zH 1 := (show zT 1 from ((0, 5, 0x10000000001000000000100000000010000000002), (0, 1, 0x100000000)), (2, (0, 0)))
noncomputable def e_X7_placings_78_1 : zH 1 := (show zT 1 from ((0, 5, 0x10000000001000000000100000000010000000002), (0, 1, 0x100000000)), (2, (0, 0)))
noncomputable def e_X7_placings_78_2 : zH 1 := (show zT 1 from ((0, 5, 0x10000000001000000000100000000010000000002), (0, 1, 0x100000000)), (2, (0, 0)))
noncomputable def e_X7_placings_78_3 : zH 1 := (show zT 1 from ((0, 5, 0x10000000001000000000100000000010000000002), (0, 1, 0x100000000)), (2, (0, 0)))
noncomputable def e_X7_placings_78_4 : zH 1 := (show zT 1 from ((0, 5, 0x10000000001000000000100000000010000000002), (0, 1, 0x100000000)), (2, (0, 0)))
noncomputable def e_X7_placings_78_5 : zH 1 := (show zT 1 from ((0, 5, 0x10000000001000000000100000000010000000002), (0, 1, 0x100000000)), (2, (0, 0)))
noncomputable abbrev es_X7_placings_78 : List (zEn 1) := [([zR 1, zI 0, zR 2], e_X7_placings_78_0), ([zR 1, zI 1, zR 2], e_X7_placings_78_1), ([zR 1, zI 2, zR 2], e_X7_placings_78_2), ([zR 1, zI 3, zR 2], e_X7_placings_78_3), ([zR 1, zI 4, zR 2], e_X7_placings_78_4), ([zR 1, zI 5, zR 2], e_X7_placings_78_5)]
theorem we_X7_placings_78 : zgdR 0 0 (zI 4294967296) (fun f => zfn 6 (b_X7_placingsa f)) es_X7_placings_78 = true := by decide +kernel
theorem ev_X7_placings_78 : zselfR 0 0 (zI 4294967296) es_X7_placings_78 [zR 1, zI 0, zR 2] e_X7_placings_78_0 (zrk (zI 4294967296) e_X7_placings_78_0) = true := by decide +kernel
noncomputable def g_X7_placings_78 {d : Nat} : List zV → zH d → zP d → Bool := zsmy [(0, 0), (0, 2)] [zR 1, zI 0, zR 2] e_X7_placings_78_0 (zI 4294967296) e_X7_placings_78_0
theorem mg_X7_placings_78 {d : Nat} : zMet (d := d) X_X7_placings yX7_placings 9 g_X7_placings_78 := zMet_sm (mr_X7_placingsa es_X7_placings_78 we_X7_placings_78 8 (by decide)) ev_X7_placings_78
noncomputable def zk_99_zs1_66_X7_placings_0 : zC := (0, 6, 0x100000000010000000001000000000100000000010000000001)
noncomputable def e_X7_placings_79_0 : zH 1 := (show zT 1 from (zk_99_zs1_66_X7_placings_0, (0, 1, 0x100000000)), (2, (0, 0)))
noncomputable def e_X7_placings_79_1 : zH 1 := (show zT 1 from (zk_99_zs1_66_X7_placings_0, (0, 1, 0x100000000)), (2, (0, 0)))
noncomputable def e_X7_placings_79_2 : zH 1 := (show zT 1 from (zk_99_zs1_66_X7_placings_0, (0, 1, 0x100000000)), (2, (0, 0)))
noncomputable def e_X7_placings_79_3 : zH 1 := (show zT 1 from (zk_99_zs1_66_X7_placings_0, (0, 1, 0x100000000)), (2, (0, 0)))
noncomputable def e_X7_placings_79_4 : zH 1 := (show zT 1 from (zk_99_zs1_66_X7_placings_0, (0, 1, 0x100000000)), (2, (0, 0)))
noncomputable def e_X7_placings_79_5 : zH 1 := (show zT 1 from (zk_99_zs1_66_X7_placings_0, (0, 1, 0x100000000)), (2, (0, 0)))
noncomputable def e_X7_placings_79_6 : zH 1 := (show zT 1 from (zk_99_zs1_66_X7_placings_0, (0, 1, 0x100000000)), (2, (0, 0)))
noncomputable abbrev es_X7_placings_79 : List (zEn 1) := [([zR 1, zI 0, zR 2], e_X7_placings_79_0), ([zR 1, zI 1, zR 2], e_X7_placings_79_1), ([zR 1, zI 2, zR 2], e_X7_placings_79_2), ([zR 1, zI 3, zR 2], e_X7_placings_79_3), ([zR 1, zI 4, zR 2], e_X7_placings_79_4), ([zR 1, zI 5, zR 2], e_X7_placings_79_5), ([zR 1, zI 6, zR 2], e_X7_placings_79_6)]
theorem we_X7_placings_79 : zgdR 0 0 (zI 4294967296) (fun f => zfn 6 (b_X7_placingsa f)) es_X7_placings_79 = true := by decide +kernel
theorem ev_X7_placings_79 : zselfR 0 0 (zI 4294967296) es_X7_placings_79 [zR 1, zI 0, zR 2] e_X7_placings_79_0 (zrk (zI 4294967296) e_X7_placings_79_0) = true := by decide +kernel
noncomputable def g_X7_placings_79 {d : Nat} : List zV → zH d → zP d → Bool := zsmy [(0, 0), (0, 2)] [zR 1, zI 0, zR 2] e_X7_placings_79_0 (zI 4294967296) e_X7_placings_79_0
theorem mg_X7_placings_79 {d : Nat} : zMet (d := d) X_X7_placings yX7_placings 9 g_X7_placings_79 := zMet_sm (mr_X7_placingsa es_X7_placings_79 we_X7_placings_79 8 (by decide)) ev_X7_placings_79
noncomputable def e_X7_placings_80_0 : zH 1 := (show zT 1 from ((0, 1, 6), (0, 2, 0x1000000000100000000)), (2, (0, 0)))
noncomputable def e_X7_placings_80_1 : zH 1 := (show zT 1 from ((0, 1, 6), (0, 2, 0x1000000000100000000)), (2, (0, 0)))
noncomputable abbrev es_X7_placings_80 : List (zEn 1) := [([zR 1, zI 0, zR 2], e_X7_placings_80_0), ([zR 1, zI 1, zR 2], e_X7_placings_80_1)]
theorem we_X7_placings_80 : zgdR 0 0 (zI 4294967296) (fun f => zfn 6 (b_X7_placingsa f)) es_X7_placings_80 = true := by decide +kernel
theorem ev_X7_placings_80 : zselfR 0 0 (zI 4294967296) es_X7_placings_80 [zR 1, zI 0, zR 2] e_X7_placings_80_0 (zrk (zI 4294967296) e_X7_placings_80_0) = true := by decide +kernel
noncomputable def g_X7_placings_80 {d : Nat} : List zV → zH d → zP d → Bool := zsmy [(0, 0), (0, 2)] [zR 1, zI 0, zR 2] e_X7_placings_80_0 (zI 4294967296) e_X7_placings_80_0
theorem mg_X7_placings_80 {d : Nat} : zMet (d := d) X_X7_placings yX7_placings 9 g_X7_placings_80 := zMet_sm (mr_X7_placingsa es_X7_placings_80 we_X7_placings_80 8 (by decide)) ev_X7_placings_80
noncomputable def e_X7_placings_81_0 : zH 1 := (show zT 1 from ((0, 2, 0x10000000005), (0, 2, 0x1000000000100000000)), (2, (0, 0)))
noncomputable def e_X7_placings_81_1 : zH 1 := (show zT 1 from ((0, 2, 0x10000000005), (0, 2, 0x1000000000100000000)), (2, (0, 0)))
noncomputable def e_X7_placings_81_2 : zH 1 := (show zT 1 from ((0, 2, 0x10000000005), (0, 2, 0x1000000000100000000)), (2, (0, 0)))
noncomputable abbrev es_X7_placings_81 : List (zEn 1) := [([zR 1, zI 0, zR 2], e_X7_placings_81_0), ([zR 1, zI 1, zR 2], e_X7_placings_81_1), ([zR 1, zI 2, zR 2], e_X7_placings_81_2)]
theorem we_X7_placings_81 : zgdR 0 0 (zI 4294967296) (fun f => zfn 6 (b_X7_placingsa f)) es_X7_placings_81 = true := by decide +kernel
theorem ev_X7_placings_81 : zselfR 0 0 (zI 4294967296) es_X7_placings_81 [zR 1, zI 0, zR 2] e_X7_placings_81_0 (zrk (zI 4294967296) e_X7_placings_81_0) = true := by decide +kernel
noncomputable def g_X7_placings_81 {d : Nat} : List zV → zH d → zP d → Bool := zsmy [(0, 0), (0, 2)] [zR 1, zI 0, zR 2] e_X7_placings_81_0 (zI 4294967296) e_X7_placings_81_0
theorem mg_X7_placings_81 {d : Nat} : zMet (d := d) X_X7_placings yX7_placings 9 g_X7_placings_81 := zMet_sm (mr_X7_placingsa es_X7_placings_81 we_X7_placings_81 8 (by decide)) ev_X7_placings_81
noncomputable def e_X7_placings_82_0 : zH 1 := (show zT 1 from ((0, 2, 0x20000000004), (0, 2, 0x1000000000100000000)), (2, (0, 0)))
noncomputable def e_X7_placings_82_1 : zH 1 := (show zT 1 from ((0, 2, 0x20000000004), (0, 2, 0x1000000000100000000)), (2, (0, 0)))
noncomputable def e_X7_placings_82_2 : zH 1 := (show zT 1 from ((0, 2, 0x20000000004), (0, 2, 0x1000000000100000000)), (2, (0, 0)))
noncomputable abbrev es_X7_placings_82 : List (zEn 1) := [([zR 1, zI 0, zR 2], e_X7_placings_82_0), ([zR 1, zI 1, zR 2], e_X7_placings_82_1), ([zR 1, zI 2, zR 2], e_X7_placings_82_2)]
theorem we_X7_placings_82 : zgdR 0 0 (zI 4294967296) (fun f => zfn 6 (b_X7_placingsa f)) es_X7_placings_82 = true := by decide +kernel
theorem ev_X7_placings_82 : zselfR 0 0 (zI 4294967296) es_X7_placings_82 [zR 1, zI 0, zR 2] e_X7_placings_82_0 (zrk (zI 4294967296) e_X7_placings_82_0) = true := by decide +kernel
noncomputable def g_X7_placings_82 {d : Nat} : List zV → zH d → zP d → Bool := zsmy [(0, 0), (0, 2)] [zR 1, zI 0, zR 2] e_X7_placings_82_0 (zI 4294967296) e_X7_placings_82_0
theorem mg_X7_placings_82 {d : Nat} : zMet (d := d) X_X7_placings yX7_placings 9 g_X7_placings_82 := zMet_sm (mr_X7_placingsa es_X7_placings_82 we_X7_placings_82 8 (by decide)) ev_X7_placings_82
noncomputable def e_X7_placings_83_0 : zH 1 := (show zT 1 from ((0, 3, 0x100000000010000000004), (0, 2, 0x1000000000100000000)), (2, (0, 0)))
noncomputable def e_X7_placings_83_1 : zH 1 := (show zT 1 from ((0, 3, 0x100000000010000000004), (0, 2, 0x1000000000100000000)), (2, (0, 0)))
noncomputable def e_X7_placings_83_2 : zH 1 := (show zT 1 from ((0, 3, 0x100000000010000000004), (0, 2, 0x1000000000100000000)), (2, (0, 0)))
noncomputable def e_X7_placings_83_3 : zH 1 := (show zT 1 from ((0, 3, 0x100000000010000000004), (0, 2, 0x1000000000100000000)), (2, (0, 0)))
noncomputable abbrev es_X7_placings_83 : List (zEn 1) := [([zR 1, zI 0, zR 2], e_X7_placings_83_0), ([zR 1, zI 1, zR 2], e_X7_placings_83_1), ([zR 1, zI 2, zR 2], e_X7_placings_83_2), ([zR 1, zI 3, zR 2], e_X7_placings_83_3)]
theorem we_X7_placings_83 : zgdR 0 0 (zI 4294967296) (fun f => zfn 6 (b_X7_placingsa f)) es_X7_placings_83 = true := by decide +kernel
theorem ev_X7_placings_83 : zselfR 0 0 (zI 4294967296) es_X7_placings_83 [zR 1, zI 0, zR 2] e_X7_placings_83_0 (zrk (zI 4294967296) e_X7_placings_83_0) = true := by decide +kernel
noncomputable def g_X7_placings_83 {d : Nat} : List zV → zH d → zP d → Bool := zsmy [(0, 0), (0, 2)] [zR 1, zI 0, zR 2] e_X7_placings_83_0 (zI 4294967296) e_X7_placings_83_0
theorem mg_X7_placings_83 {d : Nat} : zMet (d := d) X_X7_placings yX7_placings 9 g_X7_placings_83 := zMet_sm (mr_X7_placingsa es_X7_placings_83 we_X7_placings_83 8 (by decide)) ev_X7_placings_83
noncomputable def e_X7_placings_84_0 : zH 1 := (show zT 1 from ((0, 2, 0x30000000003), (0, 2, 0x1000000000100000000)), (2, (0, 0)))
noncomputable def e_X7_placings_84_1 : zH 1 := (show zT 1 from ((0, 2, 0x30000000003), (0, 2, 0x1000000000100000000)), (2, (0, 0)))
noncomputable def e_X7_placings_84_2 : zH 1 := (show zT 1 from ((0, 2, 0x30000000003), (0, 2, 0x1000000000100000000)), (2, (0, 0)))
noncomputable abbrev es_X7_placings_84 : List (zEn 1) := [([zR 1, zI 0, zR 2], e_X7_placings_84_0), ([zR 1, zI 1, zR 2], e_X7_placings_84_1), ([zR 1, zI 2, zR 2], e_X7_placings_84_2)]
theorem we_X7_placings_84 : zgdR 0 0 (zI 4294967296) (fun f => zfn 6 (b_X7_placingsa f)) es_X7_placings_84 = true := by decide +kernel
theorem ev_X7_placings_84 : zselfR 0 0 (zI 4294967296) es_X7_placings_84 [zR 1, zI 0, zR 2] e_X7_placings_84_0 (zrk (zI 4294967296) e_X7_placings_84_0) = true := by decide +kernel
noncomputable def g_X7_placings_84 {d : Nat} : List zV → zH d → zP d → Bool := zsmy [(0, 0), (0, 2)] [zR 1, zI 0, zR 2] e_X7_placings_84_0 (zI 4294967296) e_X7_placings_84_0
theorem mg_X7_placings_84 {d : Nat} : zMet (d := d) X_X7_placings yX7_placings 9 g_X7_placings_84 := zMet_sm (mr_X7_placingsa es_X7_placings_84 we_X7_placings_84 8 (by decide)) ev_X7_placings_84
noncomputable def e_X7_placings_85_0 : zH 1 := (show zT 1 from ((0, 3, 0x100000000020000000003), (0, 2, 0x1000000000100000000)), (2, (0, 0)))
noncomputable def e_X7_placings_85_1 : zH 1 := (show zT 1 from ((0, 3, 0x100000000020000000003), (0, 2, 0x1000000000100000000)), (2, (0, 0)))
noncomputable def e_X7_placings_85_2 : zH 1 := (show zT 1 from ((0, 3, 0x100000000020000000003), (0, 2, 0x1000000000100000000)), (2, (0, 0)))
noncomputable def e_X7_placings_85_3 : zH 1 := (show zT 1 from ((0, 3, 0x100000000020000000003), (0, 2, 0x1000000000100000000)), (2, (0, 0)))
noncomputable abbrev es_X7_placings_85 : List (zEn 1) := [([zR 1, zI 0, zR 2], e_X7_placings_85_0), ([zR 1, zI 1, zR 2], e_X7_placings_85_1), ([zR 1, zI 2, zR 2], e_X7_placings_85_2), ([zR 1, zI 3, zR 2], e_X7_placings_85_3)]
theorem we_X7_placings_85 : zgdR 0 0 (zI 4294967296) (fun f => zfn 6 (b_X7_placingsa f)) es_X7_placings_85 = true := by decide +kernel
theorem ev_X7_placings_85 : zselfR 0 0 (zI 4294967296) es_X7_placings_85 [zR 1, zI 0, zR 2] e_X7_placings_85_0 (zrk (zI 4294967296) e_X7_placings_85_0) = true := by decide +kernel
noncomputable def g_X7_placings_85 {d : Nat} : List zV → zH d → zP d → Bool := zsmy [(0, 0), (0, 2)] [zR 1, zI 0, zR 2] e_X7_placings_85_0 (zI 4294967296) e_X7_placings_85_0
theorem mg_X7_placings_85 {d : Nat} : zMet (d := d) X_X7_placings yX7_placings 9 g_X7_placings_85 := zMet_sm (mr_X7_placingsa es_X7_placings_85 we_X7_placings_85 8 (by decide)) ev_X7_placings_85
noncomputable def e_X7_placings_86_0 : zH 1 := (show zT 1 from ((0, 4, 0x1000000000100000000010000000003), (0, 2, 0x1000000000100000000)), (2, (0, 0)))
noncomputable def e_X7_placings_86_1 : zH 1 := (show zT 1 from ((0, 4, 0x1000000000100000000010000000003), (0, 2, 0x1000000000100000000)), (2, (0, 0)))
noncomputable def e_X7_placings_86_2 : zH 1 := (show zT 1 from ((0, 4, 0x1000000000100000000010000000003), (0, 2, 0x1000000000100000000)), (2, (0, 0)))
noncomputable def e_X7_placings_86_3 : zH 1 := (show zT 1 from ((0, 4, 0x1000000000100000000010000000003), (0, 2, 0x1000000000100000000)), (2, (0, 0)))
noncomputable def e_X7_placings_86_4 : zH 1 := (show zT 1 from ((0, 4, 0x1000000000100000000010000000003), (0, 2, 0x1000000000100000000)), (2, (0, 0)))
noncomputable abbrev es_X7_placings_86 : List (zEn 1) := [([zR 1, zI 0, zR 2], e_X7_placings_86_0), ([zR 1, zI 1, zR 2], e_X7_placings_86_1), ([zR 1, zI 2, zR 2], e_X7_placings_86_2), ([zR 1, zI 3, zR 2], e_X7_placings_86_3), ([zR 1, zI 4, zR 2], e_X7_placings_86_4)]
theorem we_X7_placings_86 : zgdR 0 0 (zI 4294967296) (fun f => zfn 6 (b_X7_placingsa f)) es_X7_placings_86 = true := by decide +kernel
theorem ev_X7_placings_86 : zselfR 0 0 (zI 4294967296) es_X7_placings_86 [zR 1, zI 0, zR 2] e_X7_placings_86_0 (zrk (zI 4294967296) e_X7_placings_86_0) = true := by decide +kernel
noncomputable def g_X7_placings_86 {d : Nat} : List zV → zH d → zP d → Bool := zsmy [(0, 0), (0, 2)] [zR 1, zI 0, zR 2] e_X7_placings_86_0 (zI 4294967296) e_X7_placings_86_0
theorem mg_X7_placings_86 {d : Nat} : zMet (d := d) X_X7_placings yX7_placings 9 g_X7_placings_86 := zMet_sm (mr_X7_placingsa es_X7_placings_86 we_X7_placings_86 8 (by decide)) ev_X7_placings_86
noncomputable def e_X7_placings_87_0 : zH 1 := (show zT 1 from ((0, 3, 0x200000000020000000002), (0, 2, 0x1000000000100000000)), (2, (0, 0)))
noncomputable def e_X7_placings_87_1 : zH 1 := (show zT 1 from ((0, 3, 0x200000000020000000002), (0, 2, 0x1000000000100000000)), (2, (0, 0)))
noncomputable def e_X7_placings_87_2 : zH 1 := (show zT 1 from ((0, 3, 0x200000000020000000002), (0, 2, 0x1000000000100000000)), (2, (0, 0)))
noncomputable def e_X7_placings_87_3 : zH 1 := (show zT 1 from ((0, 3, 0x200000000020000000002), (0, 2, 0x1000000000100000000)), (2, (0, 0)))
noncomputable abbrev es_X7_placings_87 : List (zEn 1) := [([zR 1, zI 0, zR 2], e_X7_placings_87_0), ([zR 1, zI 1, zR 2], e_X7_placings_87_1), ([zR 1, zI 2, zR 2], e_X7_placings_87_2), ([zR 1, zI 3, zR 2], e_X7_placings_87_3)]
theorem we_X7_placings_87 : zgdR 0 0 (zI 4294967296) (fun f => zfn 6 (b_X7_placingsa f)) es_X7_placings_87 = true := by decide +kernel
theorem ev_X7_placings_87 : zselfR 0 0 (zI 4294967296) es_X7_placings_87 [zR 1, zI 0, zR 2] e_X7_placings_87_0 (zrk (zI 4294967296) e_X7_placings_87_0) = true := by decide +kernel
noncomputable def g_X7_placings_87 {d : Nat} : List zV → zH d → zP d → Bool := zsmy [(0, 0), (0, 2)] [zR 1, zI 0, zR 2] e_X7_placings_87_0 (zI 4294967296) e_X7_placings_87_0
theorem mg_X7_placings_87 {d : Nat} : zMet (d := d) X_X7_placings yX7_placings 9 g_X7_placings_87 := zMet_sm (mr_X7_placingsa es_X7_placings_87 we_X7_placings_87 8 (by decide)) ev_X7_placings_87
noncomputable def e_X7_placings_88_0 : zH 1 := (show zT 1 from ((0, 4, 0x1000000000100000000020000000002), (0, 2, 0x1000000000100000000)), (2, (0, 0)))
noncomputable def e_X7_placings_88_1 : zH 1 := (show zT 1 from ((0, 4, 0x1000000000100000000020000000002), (0, 2, 0x1000000000100000000)), (2, (0, 0)))
noncomputable def e_X7_placings_88_2 : zH 1 := (show zT 1 from ((0, 4, 0x1000000000100000000020000000002), (0, 2, 0x1000000000100000000)), (2, (0, 0)))
noncomputable def e_X7_placings_88_3 : zH 1 := (show zT 1 from ((0, 4, 0x1000000000100000000020000000002), (0, 2, 0x1000000000100000000)), (2, (0, 0)))
noncomputable def e_X7_placings_88_4 : zH 1 := (show zT 1 from ((0, 4, 0x1000000000100000000020000000002), (0, 2, 0x1000000000100000000)), (2, (0, 0)))
noncomputable abbrev es_X7_placings_88 : List (zEn 1) := [([zR 1, zI 0, zR 2], e_X7_placings_88_0), ([zR 1, zI 1, zR 2], e_X7_placings_88_1), ([zR 1, zI 2, zR 2], e_X7_placings_88_2), ([zR 1, zI 3, zR 2], e_X7_placings_88_3), ([zR 1, zI 4, zR 2], e_X7_placings_88_4)]
theorem we_X7_placings_88 : zgdR 0 0 (zI 4294967296) (fun f => zfn 6 (b_X7_placingsa f)) es_X7_placings_88 = true := by decide +kernel
theorem ev_X7_placings_88 : zselfR 0 0 (zI 4294967296) es_X7_placings_88 [zR 1, zI 0, zR 2] e_X7_placings_88_0 (zrk (zI 4294967296) e_X7_placings_88_0) = true := by decide +kernel
noncomputable def g_X7_placings_88 {d : Nat} : List zV → zH d → zP d → Bool := zsmy [(0, 0), (0, 2)] [zR 1, zI 0, zR 2] e_X7_placings_88_0 (zI 4294967296) e_X7_placings_88_0
theorem mg_X7_placings_88 {d : Nat} : zMet (d := d) X_X7_placings yX7_placings 9 g_X7_placings_88 := zMet_sm (mr_X7_placingsa es_X7_placings_88 we_X7_placings_88 8 (by decide)) ev_X7_placings_88
noncomputable def e_X7_placings_89_0 : zH 1 := (show zT 1 from ((0, 5, 0x10000000001000000000100000000010000000002), (0, 2, 0x1000000000100000000)), (2, (0, 0)))
noncomputable def e_X7_placings_89_1 : zH 1 := (show zT 1 from ((0, 5, 0x10000000001000000000100000000010000000002), (0, 2, 0x1000000000100000000)), (2, (0, 0)))
noncomputable def e_X7_placings_89_2 : zH 1 := (show zT 1 from ((0, 5, 0x10000000001000000000100000000010000000002), (0, 2, 0x1000000000100000000)), (2, (0, 0)))
noncomputable def e_X7_placings_89_3 : zH 1 := (show zT 1 from ((0, 5, 0x10000000001000000000100000000010000000002), (0, 2, 0x1000000000100000000)), (2, (0, 0)))
noncomputable def e_X7_placings_89_4 : zH 1 := (show zT 1 from ((0, 5, 0x10000000001000000000100000000010000000002), (0, 2, 0x1000000000100000000)), (2, (0, 0)))
noncomputable def e_X7_placings_89_5 : zH 1 := (show zT 1 from ((0, 5, 0x10000000001000000000100000000010000000002), (0, 2, 0x1000000000100000000)), (2, (0, 0)))
noncomputable abbrev es_X7_placings_89 : List (zEn 1) := [([zR 1, zI 0, zR 2], e_X7_placings_89_0), ([zR 1, zI 1, zR 2], e_X7_placings_89_1), ([zR 1, zI 2, zR 2], e_X7_placings_89_2), ([zR 1, zI 3, zR 2], e_X7_placings_89_3), ([zR 1, zI 4, zR 2], e_X7_placings_89_4), ([zR 1, zI 5, zR 2], e_X7_placings_89_5)]
theorem we_X7_placings_89 : zgdR 0 0 (zI 4294967296) (fun f => zfn 6 (b_X7_placingsa f)) es_X7_placings_89 = true := by decide +kernel
theorem ev_X7_placings_89 : zselfR 0 0 (zI 4294967296) es_X7_placings_89 [zR 1, zI 0, zR 2] e_X7_placings_89_0 (zrk (zI 4294967296) e_X7_placings_89_0) = true := by decide +kernel
noncomputable def g_X7_placings_89 {d : Nat} : List zV → zH d → zP d → Bool := zsmy [(0, 0), (0, 2)] [zR 1, zI 0, zR 2] e_X7_placings_89_0 (zI 4294967296) e_X7_placings_89_0
theorem mg_X7_placings_89 {d : Nat} : zMet (d := d) X_X7_placings yX7_placings 9 g_X7_placings_89 := zMet_sm (mr_X7_placingsa es_X7_placings_89 we_X7_placings_89 8 (by decide)) ev_X7_placings_89
noncomputable def e_X7_placings_90_0 : zH 1 := (show zT 1 from (zk_99_zs1_66_X7_placings_0, (0, 2, 0x1000000000100000000)), (2, (0, 0)))
noncomputable def e_X7_placings_90_1 : zH 1 := (show zT 1 from (zk_99_zs1_66_X7_placings_0, (0, 2, 0x1000000000100000000)), (2, (0, 0)))
noncomputable def e_X7_placings_90_2 : zH 1 := (show zT 1 from (zk_99_zs1_66_X7_placings_0, (0, 2, 0x1000000000100000000)), (2, (0, 0)))
noncomputable def e_X7_placings_90_3 : zH 1 := (show zT 1 from (zk_99_zs1_66_X7_placings_0, (0, 2, 0x1000000000100000000)), (2, (0, 0)))
noncomputable def e_X7_placings_90_4 : zH 1 := (show zT 1 from (zk_99_zs1_66_X7_placings_0, (0, 2, 0x1000000000100000000)), (2, (0, 0)))
noncomputable def e_X7_placings_90_5 : zH 1 := (show zT 1 from (zk_99_zs1_66_X7_placings_0, (0, 2, 0x1000000000100000000)), (2, (0, 0)))
noncomputable def e_X7_placings_90_6 : zH 1 := (show zT 1 from (zk_99_zs1_66_X7_placings_0, (0, 2, 0x1000000000100000000)), (2, (0, 0)))
noncomputable abbrev es_X7_placings_90 : List (zEn 1) := [([zR 1, zI 0, zR 2], e_X7_placings_90_0), ([zR 1, zI 1, zR 2], e_X7_placings_90_1), ([zR 1, zI 2, zR 2], e_X7_placings_90_2), ([zR 1, zI 3, zR 2], e_X7_placings_90_3), ([zR 1, zI 4, zR 2], e_X7_placings_90_4), ([zR 1, zI 5, zR 2], e_X7_placings_90_5), ([zR 1, zI 6, zR 2], e_X7_placings_90_6)]
theorem we_X7_placings_90 : zgdR 0 0 (zI 4294967296) (fun f => zfn 6 (b_X7_placingsa f)) es_X7_placings_90 = true := by decide +kernel
theorem ev_X7_placings_90 : zselfR 0 0 (zI 4294967296) es_X7_placings_90 [zR 1, zI 0, zR 2] e_X7_placings_90_0 (zrk (zI 4294967296) e_X7_placings_90_0) = true := by decide +kernel
noncomputable def g_X7_placings_90 {d : Nat} : List zV → zH d → zP d → Bool := zsmy [(0, 0), (0, 2)] [zR 1, zI 0, zR 2] e_X7_placings_90_0 (zI 4294967296) e_X7_placings_90_0
theorem mg_X7_placings_90 {d : Nat} : zMet (d := d) X_X7_placings yX7_placings 9 g_X7_placings_90 := zMet_sm (mr_X7_placingsa es_X7_placings_90 we_X7_placings_90 8 (by decide)) ev_X7_placings_90
noncomputable def e_X7_placings_91_0 : zH 1 := (show zT 1 from ((0, 1, 6), (0, 3, 0x10000000001000000000100000000)), (2, (0, 0)))
noncomputable def e_X7_placings_91_1 : zH 1 := (show zT 1 from ((0, 1, 6), (0, 3, 0x10000000001000000000100000000)), (2, (0, 0)))
noncomputable abbrev es_X7_placings_91 : List (zEn 1) := [([zR 1, zI 0, zR 2], e_X7_placings_91_0), ([zR 1, zI 1, zR 2], e_X7_placings_91_1)]
theorem we_X7_placings_91 : zgdR 0 0 (zI 4294967296) (fun f => zfn 6 (b_X7_placingsa f)) es_X7_placings_91 = true := by decide +kernel
theorem ev_X7_placings_91 : zselfR 0 0 (zI 4294967296) es_X7_placings_91 [zR 1, zI 0, zR 2] e_X7_placings_91_0 (zrk (zI 4294967296) e_X7_placings_91_0) = true := by decide +kernel
noncomputable def g_X7_placings_91 {d : Nat} : List zV → zH d → zP d → Bool := zsmy [(0, 0), (0, 2)] [zR 1, zI 0, zR 2] e_X7_placings_91_0 (zI 4294967296) e_X7_placings_91_0
theorem mg_X7_placings_91 {d : Nat} : zMet (d := d) X_X7_placings yX7_placings 9 g_X7_placings_91 := zMet_sm (mr_X7_placingsa es_X7_placings_91 we_X7_placings_91 8 (by decide)) ev_X7_placings_91
noncomputable def e_X7_placings_92_0 : zH 1 := (show zT 1 from ((0, 2, 0x10000000005), (0, 3, 0x10000000001000000000100000000)), (2, (0, 0)))
noncomputable def e_X7_placings_92_1 : zH 1 := (show zT 1 from ((0, 2, 0x10000000005), (0, 3, 0x10000000001000000000100000000)), (2, (0, 0)))
noncomputable def e_X7_placings_92_2 : zH 1 := (show zT 1 from ((0, 2, 0x10000000005), (0, 3, 0x10000000001000000000100000000)), (2, (0, 0)))
noncomputable abbrev es_X7_placings_92 : List (zEn 1) := [([zR 1, zI 0, zR 2], e_X7_placings_92_0), ([zR 1, zI 1, zR 2], e_X7_placings_92_1), ([zR 1, zI 2, zR 2], e_X7_placings_92_2)]
theorem we_X7_placings_92 : zgdR 0 0 (zI 4294967296) (fun f => zfn 6 (b_X7_placingsa f)) es_X7_placings_92 = true := by decide +kernel
theorem ev_X7_placings_92 : zselfR 0 0 (zI 4294967296) es_X7_placings_92 [zR 1, zI 0, zR 2] e_X7_placings_92_0 (zrk (zI 4294967296) e_X7_placings_92_0) = true := by decide +kernel
noncomputable def g_X7_placings_92 {d : Nat} : List zV → zH d → zP d → Bool := zsmy [(0, 0), (0, 2)] [zR 1, zI 0, zR 2] e_X7_placings_92_0 (zI 4294967296) e_X7_placings_92_0
theorem mg_X7_placings_92 {d : Nat} : zMet (d := d) X_X7_placings yX7_placings 9 g_X7_placings_92 := zMet_sm (mr_X7_placingsa es_X7_placings_92 we_X7_placings_92 8 (by decide)) ev_X7_placings_92
noncomputable def e_X7_placings_93_0 : zH 1 := (show zT 1 from ((0, 2, 0x20000000004), (0, 3, 0x10000000001000000000100000000)), (2, (0, 0)))
noncomputable def e_X7_placings_93_1 : zH 1 := (show zT 1 from ((0, 2, 0x20000000004), (0, 3, 0x10000000001000000000100000000)), (2, (0, 0)))
noncomputable def e_X7_placings_93_2 : zH 1 := (show zT 1 from ((0, 2, 0x20000000004), (0, 3, 0x10000000001000000000100000000)), (2, (0, 0)))
noncomputable abbrev es_X7_placings_93 : List (zEn 1) := [([zR 1, zI 0, zR 2], e_X7_placings_93_0), ([zR 1, zI 1, zR 2], e_X7_placings_93_1), ([zR 1, zI 2, zR 2], e_X7_placings_93_2)]
theorem we_X7_placings_93 : zgdR 0 0 (zI 4294967296) (fun f => zfn 6 (b_X7_placingsa f)) es_X7_placings_93 = true := by decide +kernel
theorem ev_X7_placings_93 : zselfR 0 0 (zI 4294967296) es_X7_placings_93 [zR 1, zI 0, zR 2] e_X7_placings_93_0 (zrk (zI 4294967296) e_X7_placings_93_0) = true := by decide +kernel
noncomputable def g_X7_placings_93 {d : Nat} : List zV → zH d → zP d → Bool := zsmy [(0, 0), (0, 2)] [zR 1, zI 0, zR 2] e_X7_placings_93_0 (zI 4294967296) e_X7_placings_93_0
theorem mg_X7_placings_93 {d : Nat} : zMet (d := d) X_X7_placings yX7_placings 9 g_X7_placings_93 := zMet_sm (mr_X7_placingsa es_X7_placings_93 we_X7_placings_93 8 (by decide)) ev_X7_placings_93
noncomputable def e_X7_placings_94_0 : zH 1 := (show zT 1 from ((0, 3, 0x100000000010000000004), (0, 3, 0x10000000001000000000100000000)), (2, (0, 0)))
noncomputable def e_X7_placings_94_1 : zH 1 := (show zT 1 from ((0, 3, 0x100000000010000000004), (0, 3, 0x10000000001000000000100000000)), (2, (0, 0)))
noncomputable def e_X7_placings_94_2 : zH 1 := (show zT 1 from ((0, 3, 0x100000000010000000004), (0, 3, 0x10000000001000000000100000000)), (2, (0, 0)))
noncomputable def e_X7_placings_94_3 : zH 1 := (show zT 1 from ((0, 3, 0x100000000010000000004), (0, 3, 0x10000000001000000000100000000)), (2, (0, 0)))
noncomputable abbrev es_X7_placings_94 : List (zEn 1) := [([zR 1, zI 0, zR 2], e_X7_placings_94_0), ([zR 1, zI 1, zR 2], e_X7_placings_94_1), ([zR 1, zI 2, zR 2], e_X7_placings_94_2), ([zR 1, zI 3, zR 2], e_X7_placings_94_3)]
theorem we_X7_placings_94 : zgdR 0 0 (zI 4294967296) (fun f => zfn 6 (b_X7_placingsa f)) es_X7_placings_94 = true := by decide +kernel
theorem ev_X7_placings_94 : zselfR 0 0 (zI 4294967296) es_X7_placings_94 [zR 1, zI 0, zR 2] e_X7_placings_94_0 (zrk (zI 4294967296) e_X7_placings_94_0) = true := by decide +kernel
noncomputable def g_X7_placings_94 {d : Nat} : List zV → zH d → zP d → Bool := zsmy [(0, 0), (0, 2)] [zR 1, zI 0, zR 2] e_X7_placings_94_0 (zI 4294967296) e_X7_placings_94_0
theorem mg_X7_placings_94 {d : Nat} : zMet (d := d) X_X7_placings yX7_placings 9 g_X7_placings_94 := zMet_sm (mr_X7_placingsa es_X7_placings_94 we_X7_placings_94 8 (by decide)) ev_X7_placings_94
noncomputable def e_X7_placings_95_0 : zH 1 := (show zT 1 from ((0, 2, 0x30000000003), (0, 3, 0x10000000001000000000100000000)), (2, (0, 0)))
noncomputable def e_X7_placings_95_1 : zH 1 := (show zT 1 from ((0, 2, 0x30000000003), (0, 3, 0x10000000001000000000100000000)), (2, (0, 0)))
noncomputable def e_X7_placings_95_2 : zH 1 := (show zT 1 from ((0, 2, 0x30000000003), (0, 3, 0x10000000001000000000100000000)), (2, (0, 0)))
noncomputable abbrev es_X7_placings_95 : List (zEn 1) := [([zR 1, zI 0, zR 2], e_X7_placings_95_0), ([zR 1, zI 1, zR 2], e_X7_placings_95_1), ([zR 1, zI 2, zR 2], e_X7_placings_95_2)]
theorem we_X7_placings_95 : zgdR 0 0 (zI 4294967296) (fun f => zfn 6 (b_X7_placingsa f)) es_X7_placings_95 = true := by decide +kernel
theorem ev_X7_placings_95 : zselfR 0 0 (zI 4294967296) es_X7_placings_95 [zR 1, zI 0, zR 2] e_X7_placings_95_0 (zrk (zI 4294967296) e_X7_placings_95_0) = true := by decide +kernel
noncomputable def g_X7_placings_95 {d : Nat} : List zV → zH d → zP d → Bool := zsmy [(0, 0), (0, 2)] [zR 1, zI 0, zR 2] e_X7_placings_95_0 (zI 4294967296) e_X7_placings_95_0
theorem mg_X7_placings_95 {d : Nat} : zMet (d := d) X_X7_placings yX7_placings 9 g_X7_placings_95 := zMet_sm (mr_X7_placingsa es_X7_placings_95 we_X7_placings_95 8 (by decide)) ev_X7_placings_95
noncomputable def e_X7_placings_96_0 : zH 1 := (show zT 1 from ((0, 3, 0x100000000020000000003), (0, 3, 0x10000000001000000000100000000)), (2, (0, 0)))
noncomputable def e_X7_placings_96_1 : zH 1 := (show zT 1 from ((0, 3, 0x100000000020000000003), (0, 3, 0x10000000001000000000100000000)), (2, (0, 0)))
noncomputable def e_X7_placings_96_2 : zH 1 := (show zT 1 from ((0, 3, 0x100000000020000000003), (0, 3, 0x10000000001000000000100000000)), (2, (0, 0)))
noncomputable def e_X7_placings_96_3 : zH 1 := (show zT 1 from ((0, 3, 0x100000000020000000003), (0, 3, 0x10000000001000000000100000000)), (2, (0, 0)))
noncomputable abbrev es_X7_placings_96 : List (zEn 1) := [([zR 1, zI 0, zR 2], e_X7_placings_96_0), ([zR 1, zI 1, zR 2], e_X7_placings_96_1), ([zR 1, zI 2, zR 2], e_X7_placings_96_2), ([zR 1, zI 3, zR 2], e_X7_placings_96_3)]
theorem we_X7_placings_96 : zgdR 0 0 (zI 4294967296) (fun f => zfn 6 (b_X7_placingsa f)) es_X7_placings_96 = true := by decide +kernel
theorem ev_X7_placings_96 : zselfR 0 0 (zI 4294967296) es_X7_placings_96 [zR 1, zI 0, zR 2] e_X7_placings_96_0 (zrk (zI 4294967296) e_X7_placings_96_0) = true := by decide +kernel
noncomputable def g_X7_placings_96 {d : Nat} : List zV → zH d → zP d → Bool := zsmy [(0, 0), (0, 2)] [zR 1, zI 0, zR 2] e_X7_placings_96_0 (zI 4294967296) e_X7_placings_96_0
theorem mg_X7_placings_96 {d : Nat} : zMet (d := d) X_X7_placings yX7_placings 9 g_X7_placings_96 := zMet_sm (mr_X7_placingsa es_X7_placings_96 we_X7_placings_96 8 (by decide)) ev_X7_placings_96
noncomputable def e_X7_placings_97_0 : zH 1 := (show zT 1 from ((0, 4, 0x1000000000100000000010000000003), (0, 3, 0x10000000001000000000100000000)), (2, (0, 0)))
noncomputable def e_X7_placings_97_1 : zH 1 := (show zT 1 from ((0, 4, 0x1000000000100000000010000000003), (0, 3, 0x10000000001000000000100000000)), (2, (0, 0)))
noncomputable def e_X7_placings_97_2 : zH 1 := (show zT 1 from ((0, 4, 0x1000000000100000000010000000003), (0, 3, 0x10000000001000000000100000000)), (2, (0, 0)))
noncomputable def e_X7_placings_97_3 : zH 1 := (show zT 1 from ((0, 4, 0x1000000000100000000010000000003), (0, 3, 0x10000000001000000000100000000)), (2, (0, 0)))
noncomputable def e_X7_placings_97_4 : zH 1 := (show zT 1 from ((0, 4, 0x1000000000100000000010000000003), (0, 3, 0x10000000001000000000100000000)), (2, (0, 0)))
noncomputable abbrev es_X7_placings_97 : List (zEn 1) := [([zR 1, zI 0, zR 2], e_X7_placings_97_0), ([zR 1, zI 1, zR 2], e_X7_placings_97_1), ([zR 1, zI 2, zR 2], e_X7_placings_97_2), ([zR 1, zI 3, zR 2], e_X7_placings_97_3), ([zR 1, zI 4, zR 2], e_X7_placings_97_4)]
theorem we_X7_placings_97 : zgdR 0 0 (zI 4294967296) (fun f => zfn 6 (b_X7_placingsa f)) es_X7_placings_97 = true := by decide +kernel
theorem ev_X7_placings_97 : zselfR 0 0 (zI 4294967296) es_X7_placings_97 [zR 1, zI 0, zR 2] e_X7_placings_97_0 (zrk (zI 4294967296) e_X7_placings_97_0) = true := by decide +kernel
noncomputable def g_X7_placings_97 {d : Nat} : List zV → zH d → zP d → Bool := zsmy [(0, 0), (0, 2)] [zR 1, zI 0, zR 2] e_X7_placings_97_0 (zI 4294967296) e_X7_placings_97_0
theorem mg_X7_placings_97 {d : Nat} : zMet (d := d) X_X7_placings yX7_placings 9 g_X7_placings_97 := zMet_sm (mr_X7_placingsa es_X7_placings_97 we_X7_placings_97 8 (by decide)) ev_X7_placings_97
noncomputable def e_X7_placings_98_0 : zH 1 := (show zT 1 from ((0, 3, 0x200000000020000000002), (0, 3, 0x10000000001000000000100000000)), (2, (0, 0)))
noncomputable def e_X7_placings_98_1 : zH 1 := (show zT 1 from ((0, 3, 0x200000000020000000002), (0, 3, 0x10000000001000000000100000000)), (2, (0, 0)))
noncomputable def e_X7_placings_98_2 : zH 1 := (show zT 1 from ((0, 3, 0x200000000020000000002), (0, 3, 0x10000000001000000000100000000)), (2, (0, 0)))
noncomputable def e_X7_placings_98_3 : zH 1 := (show zT 1 from ((0, 3, 0x200000000020000000002), (0, 3, 0x10000000001000000000100000000)), (2, (0, 0)))
noncomputable abbrev es_X7_placings_98 : List (zEn 1) := [([zR 1, zI 0, zR 2], e_X7_placings_98_0), ([zR 1, zI 1, zR 2], e_X7_placings_98_1), ([zR 1, zI 2, zR 2], e_X7_placings_98_2), ([zR 1, zI 3, zR 2], e_X7_placings_98_3)]
theorem we_X7_placings_98 : zgdR 0 0 (zI 4294967296) (fun f => zfn 6 (b_X7_placingsa f)) es_X7_placings_98 = true := by decide +kernel
theorem ev_X7_placings_98 : zselfR 0 0 (zI 4294967296) es_X7_placings_98 [zR 1, zI 0, zR 2] e_X7_placings_98_0 (zrk (zI 4294967296) e_X7_placings_98_0) = true := by decide +kernel
noncomputable def g_X7_placings_98 {d : Nat} : List zV → zH d → zP d → Bool := zsmy [(0, 0), (0, 2)] [zR 1, zI 0, zR 2] e_X7_placings_98_0 (zI 4294967296) e_X7_placings_98_0
theorem mg_X7_placings_98 {d : Nat} : zMet (d := d) X_X7_placings yX7_placings 9 g_X7_placings_98 := zMet_sm (mr_X7_placingsa es_X7_placings_98 we_X7_placings_98 8 (by decide)) ev_X7_placings_98
noncomputable def e_X7_placings_99_0 : zH 1 := (show zT 1 from ((0, 4, 0x1000000000100000000020000000002), (0, 3, 0x10000000001000000000100000000)), (2, (0, 0)))
noncomputable def e_X7_placings_99_1 : zH 1 := (show zT 1 from ((0, 4, 0x1000000000100000000020000000002), (0, 3, 0x10000000001000000000100000000)), (2, (0, 0)))
noncomputable def e_X7_placings_99_2 : zH 1 := (show zT 1 from ((0, 4, 0x1000000000100000000020000000002), (0, 3, 0x10000000001000000000100000000)), (2, (0, 0)))
noncomputable def e_X7_placings_99_3 : zH 1 := (show zT 1 from ((0, 4, 0x1000000000100000000020000000002), (0, 3, 0x10000000001000000000100000000)), (2, (0, 0)))
noncomputable def e_X7_placings_99_4 : zH 1 := (show zT 1 from ((0, 4, 0x1000000000100000000020000000002), (0, 3, 0x10000000001000000000100000000)), (2, (0, 0)))
noncomputable abbrev es_X7_placings_99 : List (zEn 1) := [([zR 1, zI 0, zR 2], e_X7_placings_99_0), ([zR 1, zI 1, zR 2], e_X7_placings_99_1), ([zR 1, zI 2, zR 2], e_X7_placings_99_2), ([zR 1, zI 3, zR 2], e_X7_placings_99_3), ([zR 1, zI 4, zR 2], e_X7_placings_99_4)]
theorem we_X7_placings_99 : zgdR 0 0 (zI 4294967296) (fun f => zfn 6 (b_X7_placingsa f)) es_X7_placings_99 = true := by decide +kernel
theorem ev_X7_placings_99 : zselfR 0 0 (zI 4294967296) es_X7_placings_99 [zR 1, zI 0, zR 2] e_X7_placings_99_0 (zrk (zI 4294967296) e_X7_placings_99_0) = true := by decide +kernel
noncomputable def g_X7_placings_99 {d : Nat} : List zV → zH d → zP d → Bool := zsmy [(0, 0), (0, 2)] [zR 1, zI 0, zR 2] e_X7_placings_99_0 (zI 4294967296) e_X7_placings_99_0
theorem mg_X7_placings_99 {d : Nat} : zMet (d := d) X_X7_placings yX7_placings 9 g_X7_placings_99 := zMet_sm (mr_X7_placingsa es_X7_placings_99 we_X7_placings_99 8 (by decide)) ev_X7_placings_99
noncomputable def e_X7_placings_100_0 : zH 1 := (show zT 1 from ((0, 5, 0x10000000001000000000100000000010000000002), (0, 3, 0x10000000001000000000100000000)), (2, (0, 0)))
noncomputable def e_X7_placings_100_1 : zH 1 := (show zT 1 from ((0, 5, 0x10000000001000000000100000000010000000002), (0, 3, 0x10000000001000000000100000000)), (2, (0, 0)))
noncomputable def e_X7_placings_100_2 : zH 1 := (show zT 1 from ((0, 5, 0x10000000001000000000100000000010000000002), (0, 3, 0x10000000001000000000100000000)), (2, (0, 0)))
noncomputable def e_X7_placings_100_3 : zH 1 := (show zT 1 from ((0, 5, 0x10000000001000000000100000000010000000002), (0, 3, 0x10000000001000000000100000000)), (2, (0, 0)))
noncomputable def e_X7_placings_100_4 : zH 1 := (show zT 1 from ((0, 5, 0x10000000001000000000100000000010000000002), (0, 3, 0x10000000001000000000100000000)), (2, (0, 0)))
noncomputable def e_X7_placings_100_5 : zH 1 := (show zT 1 from ((0, 5, 0x10000000001000000000100000000010000000002), (0, 3, 0x10000000001000000000100000000)), (2, (0, 0)))
noncomputable abbrev es_X7_placings_100 : List (zEn 1) := [([zR 1, zI 0, zR 2], e_X7_placings_100_0), ([zR 1, zI 1, zR 2], e_X7_placings_100_1), ([zR 1, zI 2, zR 2], e_X7_placings_100_2), ([zR 1, zI 3, zR 2], e_X7_placings_100_3), ([zR 1, zI 4, zR 2], e_X7_placings_100_4), ([zR 1, zI 5, zR 2], e_X7_placings_100_5)]
theorem we_X7_placings_100 : zgdR 0 0 (zI 4294967296) (fun f => zfn 6 (b_X7_placingsa f)) es_X7_placings_100 = true := by decide +kernel
theorem ev_X7_placings_100 : zselfR 0 0 (zI 4294967296) es_X7_placings_100 [zR 1, zI 0, zR 2] e_X7_placings_100_0 (zrk (zI 4294967296) e_X7_placings_100_0) = true := by decide +kernel
noncomputable def g_X7_placings_100 {d : Nat} : List zV → zH d → zP d → Bool := zsmy [(0, 0), (0, 2)] [zR 1, zI 0, zR 2] e_X7_placings_100_0 (zI 4294967296) e_X7_placings_100_0
theorem mg_X7_placings_100 {d : Nat} : zMet (d := d) X_X7_placings yX7_placings 9 g_X7_placings_100 := zMet_sm (mr_X7_placingsa es_X7_placings_100 we_X7_placings_100 8 (by decide)) ev_X7_placings_100
noncomputable def e_X7_placings_101_0 : zH 1 := (show zT 1 from (zk_99_zs1_66_X7_placings_0, (0, 3, 0x10000000001000000000100000000)), (2, (0, 0)))
noncomputable def e_X7_placings_101_1 : zH 1 := (show zT 1 from (zk_99_zs1_66_X7_placings_0, (0, 3, 0x10000000001000000000100000000)), (2, (0, 0)))
noncomputable def e_X7_placings_101_2 : zH 1 := (show zT 1 from (zk_99_zs1_66_X7_placings_0, (0, 3, 0x10000000001000000000100000000)), (2, (0, 0)))
noncomputable def e_X7_placings_101_3 : zH 1 := (show zT 1 from (zk_99_zs1_66_X7_placings_0, (0, 3, 0x10000000001000000000100000000)), (2, (0, 0)))
noncomputable def e_X7_placings_101_4 : zH 1 := (show zT 1 from (zk_99_zs1_66_X7_placings_0, (0, 3, 0x10000000001000000000100000000)), (2, (0, 0)))
noncomputable def e_X7_placings_101_5 : zH 1 := (show zT 1 from (zk_99_zs1_66_X7_placings_0, (0, 3, 0x10000000001000000000100000000)), (2, (0, 0)))
noncomputable def e_X7_placings_101_6 : zH 1 := (show zT 1 from (zk_99_zs1_66_X7_placings_0, (0, 3, 0x10000000001000000000100000000)), (2, (0, 0)))
noncomputable abbrev es_X7_placings_101 : List (zEn 1) := [([zR 1, zI 0, zR 2], e_X7_placings_101_0), ([zR 1, zI 1, zR 2], e_X7_placings_101_1), ([zR 1, zI 2, zR 2], e_X7_placings_101_2), ([zR 1, zI 3, zR 2], e_X7_placings_101_3), ([zR 1, zI 4, zR 2], e_X7_placings_101_4), ([zR 1, zI 5, zR 2], e_X7_placings_101_5), ([zR 1, zI 6, zR 2], e_X7_placings_101_6)]
theorem we_X7_placings_101 : zgdR 0 0 (zI 4294967296) (fun f => zfn 6 (b_X7_placingsa f)) es_X7_placings_101 = true := by decide +kernel
theorem ev_X7_placings_101 : zselfR 0 0 (zI 4294967296) es_X7_placings_101 [zR 1, zI 0, zR 2] e_X7_placings_101_0 (zrk (zI 4294967296) e_X7_placings_101_0) = true := by decide +kernel
noncomputable def g_X7_placings_101 {d : Nat} : List zV → zH d → zP d → Bool := zsmy [(0, 0), (0, 2)] [zR 1, zI 0, zR 2] e_X7_placings_101_0 (zI 4294967296) e_X7_placings_101_0
theorem mg_X7_placings_101 {d : Nat} : zMet (d := d) X_X7_placings yX7_placings 9 g_X7_placings_101 := zMet_sm (mr_X7_placingsa es_X7_placings_101 we_X7_placings_101 8 (by decide)) ev_X7_placings_101
noncomputable def e_X7_placings_102_0 : zH 1 := (show zT 1 from ((0, 1, 6), (0, 4, 0x100000000010000000001000000000100000000)), (2, (0, 0)))
noncomputable def e_X7_placings_102_1 : zH 1 := (show zT 1 from ((0, 1, 6), (0, 4, 0x100000000010000000001000000000100000000)), (2, (0, 0)))
noncomputable abbrev es_X7_placings_102 : List (zEn 1) := [([zR 1, zI 0, zR 2], e_X7_placings_102_0), ([zR 1, zI 1, zR 2], e_X7_placings_102_1)]
theorem we_X7_placings_102 : zgdR 0 0 (zI 4294967296) (fun f => zfn 6 (b_X7_placingsa f)) es_X7_placings_102 = true := by decide +kernel
theorem ev_X7_placings_102 : zselfR 0 0 (zI 4294967296) es_X7_placings_102 [zR 1, zI 0, zR 2] e_X7_placings_102_0 (zrk (zI 4294967296) e_X7_placings_102_0) = true := by decide +kernel
noncomputable def g_X7_placings_102 {d : Nat} : List zV → zH d → zP d → Bool := zsmy [(0, 0), (0, 2)] [zR 1, zI 0, zR 2] e_X7_placings_102_0 (zI 4294967296) e_X7_placings_102_0
theorem mg_X7_placings_102 {d : Nat} : zMet (d := d) X_X7_placings yX7_placings 9 g_X7_placings_102 := zMet_sm (mr_X7_placingsa es_X7_placings_102 we_X7_placings_102 8 (by decide)) ev_X7_placings_102
noncomputable def e_X7_placings_103_0 : zH 1 := (show zT 1 from ((0, 2, 0x10000000005), (0, 4, 0x100000000010000000001000000000100000000)), (2, (0, 0)))
noncomputable def e_X7_placings_103_1 : zH 1 := (show zT 1 from ((0, 2, 0x10000000005), (0, 4, 0x100000000010000000001000000000100000000)), (2, (0, 0)))
noncomputable def e_X7_placings_103_2 : zH 1 := (show zT 1 from ((0, 2, 0x10000000005), (0, 4, 0x100000000010000000001000000000100000000)), (2, (0, 0)))
noncomputable abbrev es_X7_placings_103 : List (zEn 1) := [([zR 1, zI 0, zR 2], e_X7_placings_103_0), ([zR 1, zI 1, zR 2], e_X7_placings_103_1), ([zR 1, zI 2, zR 2], e_X7_placings_103_2)]
theorem we_X7_placings_103 : zgdR 0 0 (zI 4294967296) (fun f => zfn 6 (b_X7_placingsa f)) es_X7_placings_103 = true := by decide +kernel
theorem ev_X7_placings_103 : zselfR 0 0 (zI 4294967296) es_X7_placings_103 [zR 1, zI 0, zR 2] e_X7_placings_103_0 (zrk (zI 4294967296) e_X7_placings_103_0) = true := by decide +kernel
noncomputable def g_X7_placings_103 {d : Nat} : List zV → zH d → zP d → Bool := zsmy [(0, 0), (0, 2)] [zR 1, zI 0, zR 2] e_X7_placings_103_0 (zI 4294967296) e_X7_placings_103_0
theorem mg_X7_placings_103 {d : Nat} : zMet (d := d) X_X7_placings yX7_placings 9 g_X7_placings_103 := zMet_sm (mr_X7_placingsa es_X7_placings_103 we_X7_placings_103 8 (by decide)) ev_X7_placings_103
noncomputable def e_X7_placings_104_0 : zH 1 := (show zT 1 from ((0, 2, 0x20000000004), (0, 4, 0x100000000010000000001000000000100000000)), (2, (0, 0)))
noncomputable def e_X7_placings_104_1 : zH 1 := (show zT 1 from ((0, 2, 0x20000000004), (0, 4, 0x100000000010000000001000000000100000000)), (2, (0, 0)))
noncomputable def e_X7_placings_104_2 : zH 1 := (show zT 1 from ((0, 2, 0x20000000004), (0, 4, 0x100000000010000000001000000000100000000)), (2, (0, 0)))
noncomputable abbrev es_X7_placings_104 : List (zEn 1) := [([zR 1, zI 0, zR 2], e_X7_placings_104_0), ([zR 1, zI 1, zR 2], e_X7_placings_104_1), ([zR 1, zI 2, zR 2], e_X7_placings_104_2)]
theorem we_X7_placings_104 : zgdR 0 0 (zI 4294967296) (fun f => zfn 6 (b_X7_placingsa f)) es_X7_placings_104 = true := by decide +kernel
theorem ev_X7_placings_104 : zselfR 0 0 (zI 4294967296) es_X7_placings_104 [zR 1, zI 0, zR 2] e_X7_placings_104_0 (zrk (zI 4294967296) e_X7_placings_104_0) = true := by decide +kernel
noncomputable def g_X7_placings_104 {d : Nat} : List zV → zH d → zP d → Bool := zsmy [(0, 0), (0, 2)] [zR 1, zI 0, zR 2] e_X7_placings_104_0 (zI 4294967296) e_X7_placings_104_0
theorem mg_X7_placings_104 {d : Nat} : zMet (d := d) X_X7_placings yX7_placings 9 g_X7_placings_104 := zMet_sm (mr_X7_placingsa es_X7_placings_104 we_X7_placings_104 8 (by decide)) ev_X7_placings_104
noncomputable def e_X7_placings_105_0 : zH 1 := (show zT 1 from ((0, 3, 0x100000000010000000004), (0, 4, 0x100000000010000000001000000000100000000)), (2, (0, 0)))
noncomputable def e_X7_placings_105_1 : zH 1 := (show zT 1 from ((0, 3, 0x100000000010000000004), (0, 4, 0x100000000010000000001000000000100000000)), (2, (0, 0)))
noncomputable def e_X7_placings_105_2 : zH 1 := (show zT 1 from ((0, 3, 0x100000000010000000004), (0, 4, 0x100000000010000000001000000000100000000)), (2, (0, 0)))
noncomputable def e_X7_placings_105_3 : zH 1 := (show zT 1 from ((0, 3, 0x100000000010000000004), (0, 4, 0x100000000010000000001000000000100000000)), (2, (0, 0)))
noncomputable abbrev es_X7_placings_105 : List (zEn 1) := [([zR 1, zI 0, zR 2], e_X7_placings_105_0), ([zR 1, zI 1, zR 2], e_X7_placings_105_1), ([zR 1, zI 2, zR 2], e_X7_placings_105_2), ([zR 1, zI 3, zR 2], e_X7_placings_105_3)]
theorem we_X7_placings_105 : zgdR 0 0 (zI 4294967296) (fun f => zfn 6 (b_X7_placingsa f)) es_X7_placings_105 = true := by decide +kernel
theorem ev_X7_placings_105 : zselfR 0 0 (zI 4294967296) es_X7_placings_105 [zR 1, zI 0, zR 2] e_X7_placings_105_0 (zrk (zI 4294967296) e_X7_placings_105_0) = true := by decide +kernel
noncomputable def g_X7_placings_105 {d : Nat} : List zV → zH d → zP d → Bool := zsmy [(0, 0), (0, 2)] [zR 1, zI 0, zR 2] e_X7_placings_105_0 (zI 4294967296) e_X7_placings_105_0
theorem mg_X7_placings_105 {d : Nat} : zMet (d := d) X_X7_placings yX7_placings 9 g_X7_placings_105 := zMet_sm (mr_X7_placingsa es_X7_placings_105 we_X7_placings_105 8 (by decide)) ev_X7_placings_105
noncomputable def e_X7_placings_106_0 : zH 1 := (show zT 1 from ((0, 2, 0x30000000003), (0, 4, 0x100000000010000000001000000000100000000)), (2, (0, 0)))
noncomputable def e_X7_placings_106_1 : zH 1 := (show zT 1 from ((0, 2, 0x30000000003), (0, 4, 0x100000000010000000001000000000100000000)), (2, (0, 0)))
noncomputable def e_X7_placings_106_2 : zH 1 := (show zT 1 from ((0, 2, 0x30000000003), (0, 4, 0x100000000010000000001000000000100000000)), (2, (0, 0)))
noncomputable abbrev es_X7_placings_106 : List (zEn 1) := [([zR 1, zI 0, zR 2], e_X7_placings_106_0), ([zR 1, zI 1, zR 2], e_X7_placings_106_1), ([zR 1, zI 2, zR 2], e_X7_placings_106_2)]
theorem we_X7_placings_106 : zgdR 0 0 (zI 4294967296) (fun f => zfn 6 (b_X7_placingsa f)) es_X7_placings_106 = true := by decide +kernel
theorem ev_X7_placings_106 : zselfR 0 0 (zI 4294967296) es_X7_placings_106 [zR 1, zI 0, zR 2] e_X7_placings_106_0 (zrk (zI 4294967296) e_X7_placings_106_0) = true := by decide +kernel
noncomputable def g_X7_placings_106 {d : Nat} : List zV → zH d → zP d → Bool := zsmy [(0, 0), (0, 2)] [zR 1, zI 0, zR 2] e_X7_placings_106_0 (zI 4294967296) e_X7_placings_106_0
theorem mg_X7_placings_106 {d : Nat} : zMet (d := d) X_X7_placings yX7_placings 9 g_X7_placings_106 := zMet_sm (mr_X7_placingsa es_X7_placings_106 we_X7_placings_106 8 (by decide)) ev_X7_placings_106
noncomputable def e_X7_placings_107_0 : zH 1 := (show zT 1 from ((0, 3, 0x100000000020000000003), (0, 4, 0x100000000010000000001000000000100000000)), (2, (0, 0)))
noncomputable def e_X7_placings_107_1 : zH 1 := (show zT 1 from ((0, 3, 0x100000000020000000003), (0, 4, 0x100000000010000000001000000000100000000)), (2, (0, 0)))
noncomputable def e_X7_placings_107_2 : zH 1 := (show zT 1 from ((0, 3, 0x100000000020000000003), (0, 4, 0x100000000010000000001000000000100000000)), (2, (0, 0)))
noncomputable def e_X7_placings_107_3 : zH 1 := (show zT 1 from ((0, 3, 0x100000000020000000003), (0, 4, 0x100000000010000000001000000000100000000)), (2, (0, 0)))
noncomputable abbrev es_X7_placings_107 : List (zEn 1) := [([zR 1, zI 0, zR 2], e_X7_placings_107_0), ([zR 1, zI 1, zR 2], e_X7_placings_107_1), ([zR 1, zI 2, zR 2], e_X7_placings_107_2), ([zR 1, zI 3, zR 2], e_X7_placings_107_3)]
theorem we_X7_placings_107 : zgdR 0 0 (zI 4294967296) (fun f => zfn 6 (b_X7_placingsa f)) es_X7_placings_107 = true := by decide +kernel
theorem ev_X7_placings_107 : zselfR 0 0 (zI 4294967296) es_X7_placings_107 [zR 1, zI 0, zR 2] e_X7_placings_107_0 (zrk (zI 4294967296) e_X7_placings_107_0) = true := by decide +kernel
noncomputable def g_X7_placings_107 {d : Nat} : List zV → zH d → zP d → Bool := zsmy [(0, 0), (0, 2)] [zR 1, zI 0, zR 2] e_X7_placings_107_0 (zI 4294967296) e_X7_placings_107_0
theorem mg_X7_placings_107 {d : Nat} : zMet (d := d) X_X7_placings yX7_placings 9 g_X7_placings_107 := zMet_sm (mr_X7_placingsa es_X7_placings_107 we_X7_placings_107 8 (by decide)) ev_X7_placings_107
noncomputable def e_X7_placings_108_0 : zH 1 := (show zT 1 from ((0, 4, 0x1000000000100000000010000000003), (0, 4, 0x100000000010000000001000000000100000000)), (2, (0, 0)))
noncomputable def e_X7_placings_108_1 : zH 1 := (show zT 1 from ((0, 4, 0x1000000000100000000010000000003), (0, 4, 0x100000000010000000001000000000100000000)), (2, (0, 0)))
noncomputable def e_X7_placings_108_2 : zH 1 := (show zT 1 from ((0, 4, 0x1000000000100000000010000000003), (0, 4, 0x100000000010000000001000000000100000000)), (2, (0, 0)))
noncomputable def e_X7_placings_108_3 : zH 1 := (show zT 1 from ((0, 4, 0x1000000000100000000010000000003), (0, 4, 0x100000000010000000001000000000100000000)), (2, (0, 0)))
noncomputable def e_X7_placings_108_4 : zH 1 := (show zT 1 from ((0, 4, 0x1000000000100000000010000000003), (0, 4, 0x100000000010000000001000000000100000000)), (2, (0, 0)))
noncomputable abbrev es_X7_placings_108 : List (zEn 1) := [([zR 1, zI 0, zR 2], e_X7_placings_108_0), ([zR 1, zI 1, zR 2], e_X7_placings_108_1), ([zR 1, zI 2, zR 2], e_X7_placings_108_2), ([zR 1, zI 3, zR 2], e_X7_placings_108_3), ([zR 1, zI 4, zR 2], e_X7_placings_108_4)]
theorem we_X7_placings_108 : zgdR 0 0 (zI 4294967296) (fun f => zfn 6 (b_X7_placingsa f)) es_X7_placings_108 = true := by decide +kernel
theorem ev_X7_placings_108 : zselfR 0 0 (zI 4294967296) es_X7_placings_108 [zR 1, zI 0, zR 2] e_X7_placings_108_0 (zrk (zI 4294967296) e_X7_placings_108_0) = true := by decide +kernel
noncomputable def g_X7_placings_108 {d : Nat} : List zV → zH d → zP d → Bool := zsmy [(0, 0), (0, 2)] [zR 1, zI 0, zR 2] e_X7_placings_108_0 (zI 4294967296) e_X7_placings_108_0
theorem mg_X7_placings_108 {d : Nat} : zMet (d := d) X_X7_placings yX7_placings 9 g_X7_placings_108 := zMet_sm (mr_X7_placingsa es_X7_placings_108 we_X7_placings_108 8 (by decide)) ev_X7_placings_108
noncomputable def e_X7_placings_109_0 : zH 1 := (show zT 1 from ((0, 3, 0x200000000020000000002), (0, 4, 0x100000000010000000001000000000100000000)), (2, (0, 0)))
noncomputable def e_X7_placings_109_1 : zH 1 := (show zT 1 from ((0, 3, 0x200000000020000000002), (0, 4, 0x100000000010000000001000000000100000000)), (2, (0, 0)))
noncomputable def e_X7_placings_109_2 : zH 1 := (show zT 1 from ((0, 3, 0x200000000020000000002), (0, 4, 0x100000000010000000001000000000100000000)), (2, (0, 0)))
noncomputable def e_X7_placings_109_3 : zH 1 := (show zT 1 from ((0, 3, 0x200000000020000000002), (0, 4, 0x100000000010000000001000000000100000000)), (2, (0, 0)))
noncomputable abbrev es_X7_placings_109 : List (zEn 1) := [([zR 1, zI 0, zR 2], e_X7_placings_109_0), ([zR 1, zI 1, zR 2], e_X7_placings_109_1), ([zR 1, zI 2, zR 2], e_X7_placings_109_2), ([zR 1, zI 3, zR 2], e_X7_placings_109_3)]
theorem we_X7_placings_109 : zgdR 0 0 (zI 4294967296) (fun f => zfn 6 (b_X7_placingsa f)) es_X7_placings_109 = true := by decide +kernel
theorem ev_X7_placings_109 : zselfR 0 0 (zI 4294967296) es_X7_placings_109 [zR 1, zI 0, zR 2] e_X7_placings_109_0 (zrk (zI 4294967296) e_X7_placings_109_0) = true := by decide +kernel
noncomputable def g_X7_placings_109 {d : Nat} : List zV → zH d → zP d → Bool := zsmy [(0, 0), (0, 2)] [zR 1, zI 0, zR 2] e_X7_placings_109_0 (zI 4294967296) e_X7_placings_109_0
theorem mg_X7_placings_109 {d : Nat} : zMet (d := d) X_X7_placings yX7_placings 9 g_X7_placings_109 := zMet_sm (mr_X7_placingsa es_X7_placings_109 we_X7_placings_109 8 (by decide)) ev_X7_placings_109
noncomputable def e_X7_placings_110_0 : zH 1 := (show zT 1 from ((0, 4, 0x1000000000100000000020000000002), (0, 4, 0x100000000010000000001000000000100000000)), (2, (0, 0)))
noncomputable def e_X7_placings_110_1 : zH 1 := (show zT 1 from ((0, 4, 0x1000000000100000000020000000002), (0, 4, 0x100000000010000000001000000000100000000)), (2, (0, 0)))
noncomputable def e_X7_placings_110_2 : zH 1 := (show zT 1 from ((0, 4, 0x1000000000100000000020000000002), (0, 4, 0x100000000010000000001000000000100000000)), (2, (0, 0)))
noncomputable def e_X7_placings_110_3 : zH 1 := (show zT 1 from ((0, 4, 0x1000000000100000000020000000002), (0, 4, 0x100000000010000000001000000000100000000)), (2, (0, 0)))
noncomputable def e_X7_placings_110_4 : zH 1 := (show zT 1 from ((0, 4, 0x1000000000100000000020000000002), (0, 4, 0x100000000010000000001000000000100000000)), (2, (0, 0)))
noncomputable abbrev es_X7_placings_110 : List (zEn 1) := [([zR 1, zI 0, zR 2], e_X7_placings_110_0), ([zR 1, zI 1, zR 2], e_X7_placings_110_1), ([zR 1, zI 2, zR 2], e_X7_placings_110_2), ([zR 1, zI 3, zR 2], e_X7_placings_110_3), ([zR 1, zI 4, zR 2], e_X7_placings_110_4)]
theorem we_X7_placings_110 : zgdR 0 0 (zI 4294967296) (fun f => zfn 6 (b_X7_placingsa f)) es_X7_placings_110 = true := by decide +kernel
theorem ev_X7_placings_110 : zselfR 0 0 (zI 4294967296) es_X7_placings_110 [zR 1, zI 0, zR 2] e_X7_placings_110_0 (zrk (zI 4294967296) e_X7_placings_110_0) = true := by decide +kernel
noncomputable def g_X7_placings_110 {d : Nat} : List zV → zH d → zP d → Bool := zsmy [(0, 0), (0, 2)] [zR 1, zI 0, zR 2] e_X7_placings_110_0 (zI 4294967296) e_X7_placings_110_0
theorem mg_X7_placings_110 {d : Nat} : zMet (d := d) X_X7_placings yX7_placings 9 g_X7_placings_110 := zMet_sm (mr_X7_placingsa es_X7_placings_110 we_X7_placings_110 8 (by decide)) ev_X7_placings_110
noncomputable def e_X7_placings_111_0 : zH 1 := (show zT 1 from ((0, 5, 0x10000000001000000000100000000010000000002), (0, 4, 0x100000000010000000001000000000100000000)), (2, (0, 0)))
noncomputable def e_X7_placings_111_1 : zH 1 := (show zT 1 from ((0, 5, 0x10000000001000000000100000000010000000002), (0, 4, 0x100000000010000000001000000000100000000)), (2, (0, 0)))
noncomputable def e_X7_placings_111_2 : zH 1 := (show zT 1 from ((0, 5, 0x10000000001000000000100000000010000000002), (0, 4, 0x100000000010000000001000000000100000000)), (2, (0, 0)))
noncomputable def e_X7_placings_111_3 : zH 1 := (show zT 1 from ((0, 5, 0x10000000001000000000100000000010000000002), (0, 4, 0x100000000010000000001000000000100000000)), (2, (0, 0)))
noncomputable def e_X7_placings_111_4 : zH 1 := (show zT 1 from ((0, 5, 0x10000000001000000000100000000010000000002), (0, 4, 0x100000000010000000001000000000100000000)), (2, (0, 0)))
noncomputable def e_X7_placings_111_5 : zH 1 := (show zT 1 from ((0, 5, 0x10000000001000000000100000000010000000002), (0, 4, 0x100000000010000000001000000000100000000)), (2, (0, 0)))
noncomputable abbrev es_X7_placings_111 : List (zEn 1) := [([zR 1, zI 0, zR 2], e_X7_placings_111_0), ([zR 1, zI 1, zR 2], e_X7_placings_111_1), ([zR 1, zI 2, zR 2], e_X7_placings_111_2), ([zR 1, zI 3, zR 2], e_X7_placings_111_3), ([zR 1, zI 4, zR 2], e_X7_placings_111_4), ([zR 1, zI 5, zR 2], e_X7_placings_111_5)]
theorem we_X7_placings_111 : zgdR 0 0 (zI 4294967296) (fun f => zfn 6 (b_X7_placingsa f)) es_X7_placings_111 = true := by decide +kernel
theorem ev_X7_placings_111 : zselfR 0 0 (zI 4294967296) es_X7_placings_111 [zR 1, zI 0, zR 2] e_X7_placings_111_0 (zrk (zI 4294967296) e_X7_placings_111_0) = true := by decide +kernel
noncomputable def g_X7_placings_111 {d : Nat} : List zV → zH d → zP d → Bool := zsmy [(0, 0), (0, 2)] [zR 1, zI 0, zR 2] e_X7_placings_111_0 (zI 4294967296) e_X7_placings_111_0
theorem mg_X7_placings_111 {d : Nat} : zMet (d := d) X_X7_placings yX7_placings 9 g_X7_placings_111 := zMet_sm (mr_X7_placingsa es_X7_placings_111 we_X7_placings_111 8 (by decide)) ev_X7_placings_111
noncomputable def e_X7_placings_112_0 : zH 1 := (show zT 1 from (zk_99_zs1_66_X7_placings_0, (0, 4, 0x100000000010000000001000000000100000000)), (2, (0, 0)))
noncomputable def e_X7_placings_112_1 : zH 1 := (show zT 1 from (zk_99_zs1_66_X7_placings_0, (0, 4, 0x100000000010000000001000000000100000000)), (2, (0, 0)))
noncomputable def e_X7_placings_112_2 : zH 1 := (show zT 1 from (zk_99_zs1_66_X7_placings_0, (0, 4, 0x100000000010000000001000000000100000000)), (2, (0, 0)))
noncomputable def e_X7_placings_112_3 : zH 1 := (show zT 1 from (zk_99_zs1_66_X7_placings_0, (0, 4, 0x100000000010000000001000000000100000000)), (2, (0, 0)))
noncomputable def e_X7_placings_112_4 : zH 1 := (show zT 1 from (zk_99_zs1_66_X7_placings_0, (0, 4, 0x100000000010000000001000000000100000000)), (2, (0, 0)))
noncomputable def e_X7_placings_112_5 : zH 1 := (show zT 1 from (zk_99_zs1_66_X7_placings_0, (0, 4, 0x100000000010000000001000000000100000000)), (2, (0, 0)))
noncomputable def e_X7_placings_112_6 : zH 1 := (show zT 1 from (zk_99_zs1_66_X7_placings_0, (0, 4, 0x100000000010000000001000000000100000000)), (2, (0, 0)))
noncomputable abbrev es_X7_placings_112 : List (zEn 1) := [([zR 1, zI 0, zR 2], e_X7_placings_112_0), ([zR 1, zI 1, zR 2], e_X7_placings_112_1), ([zR 1, zI 2, zR 2], e_X7_placings_112_2), ([zR 1, zI 3, zR 2], e_X7_placings_112_3), ([zR 1, zI 4, zR 2], e_X7_placings_112_4), ([zR 1, zI 5, zR 2], e_X7_placings_112_5), ([zR 1, zI 6, zR 2], e_X7_placings_112_6)]
theorem we_X7_placings_112 : zgdR 0 0 (zI 4294967296) (fun f => zfn 6 (b_X7_placingsa f)) es_X7_placings_112 = true := by decide +kernel
theorem ev_X7_placings_112 : zselfR 0 0 (zI 4294967296) es_X7_placings_112 [zR 1, zI 0, zR 2] e_X7_placings_112_0 (zrk (zI 4294967296) e_X7_placings_112_0) = true := by decide +kernel
noncomputable def g_X7_placings_112 {d : Nat} : List zV → zH d → zP d → Bool := zsmy [(0, 0), (0, 2)] [zR 1, zI 0, zR 2] e_X7_placings_112_0 (zI 4294967296) e_X7_placings_112_0
theorem mg_X7_placings_112 {d : Nat} : zMet (d := d) X_X7_placings yX7_placings 9 g_X7_placings_112 := zMet_sm (mr_X7_placingsa es_X7_placings_112 we_X7_placings_112 8 (by decide)) ev_X7_placings_112
noncomputable def e_X7_placings_113_0 : zH 1 := (show zT 1 from ((0, 1, 6), (0, 5, 0x1000000000100000000010000000001000000000100000000)), (2, (0, 0)))
noncomputable def e_X7_placings_113_1 : zH 1 := (show zT 1 from ((0, 1, 6), (0, 5, 0x1000000000100000000010000000001000000000100000000)), (2, (0, 0)))
noncomputable abbrev es_X7_placings_113 : List (zEn 1) := [([zR 1, zI 0, zR 2], e_X7_placings_113_0), ([zR 1, zI 1, zR 2], e_X7_placings_113_1)]
theorem we_X7_placings_113 : zgdR 0 0 (zI 4294967296) (fun f => zfn 6 (b_X7_placingsa f)) es_X7_placings_113 = true := by decide +kernel
theorem ev_X7_placings_113 : zselfR 0 0 (zI 4294967296) es_X7_placings_113 [zR 1, zI 0, zR 2] e_X7_placings_113_0 (zrk (zI 4294967296) e_X7_placings_113_0) = true := by decide +kernel
noncomputable def g_X7_placings_113 {d : Nat} : List zV → zH d → zP d → Bool := zsmy [(0, 0), (0, 2)] [zR 1, zI 0, zR 2] e_X7_placings_113_0 (zI 4294967296) e_X7_placings_113_0
theorem mg_X7_placings_113 {d : Nat} : zMet (d := d) X_X7_placings yX7_placings 9 g_X7_placings_113 := zMet_sm (mr_X7_placingsa es_X7_placings_113 we_X7_placings_113 8 (by decide)) ev_X7_placings_113
noncomputable def e_X7_placings_114_0 : zH 1 := (show zT 1 from ((0, 2, 0x10000000005), (0, 5, 0x1000000000100000000010000000001000000000100000000)), (2, (0, 0)))
noncomputable def e_X7_placings_114_1 : zH 1 := (show zT 1 from ((0, 2, 0x10000000005), (0, 5, 0x1000000000100000000010000000001000000000100000000)), (2, (0, 0)))
noncomputable def e_X7_placings_114_2 : zH 1 := (show zT 1 from ((0, 2, 0x10000000005), (0, 5, 0x1000000000100000000010000000001000000000100000000)), (2, (0, 0)))
noncomputable abbrev es_X7_placings_114 : List (zEn 1) := [([zR 1, zI 0, zR 2], e_X7_placings_114_0), ([zR 1, zI 1, zR 2], e_X7_placings_114_1), ([zR 1, zI 2, zR 2], e_X7_placings_114_2)]
theorem we_X7_placings_114 : zgdR 0 0 (zI 4294967296) (fun f => zfn 6 (b_X7_placingsa f)) es_X7_placings_114 = true := by decide +kernel
theorem ev_X7_placings_114 : zselfR 0 0 (zI 4294967296) es_X7_placings_114 [zR 1, zI 0, zR 2] e_X7_placings_114_0 (zrk (zI 4294967296) e_X7_placings_114_0) = true := by decide +kernel
noncomputable def g_X7_placings_114 {d : Nat} : List zV → zH d → zP d → Bool := zsmy [(0, 0), (0, 2)] [zR 1, zI 0, zR 2] e_X7_placings_114_0 (zI 4294967296) e_X7_placings_114_0
theorem mg_X7_placings_114 {d : Nat} : zMet (d := d) X_X7_placings yX7_placings 9 g_X7_placings_114 := zMet_sm (mr_X7_placingsa es_X7_placings_114 we_X7_placings_114 8 (by decide)) ev_X7_placings_114
noncomputable def e_X7_placings_115_0 : zH 1 := (show zT 1 from ((0, 2, 0x20000000004), (0, 5, 0x1000000000100000000010000000001000000000100000000)), (2, (0, 0)))
noncomputable def e_X7_placings_115_1 : zH 1 := (show zT 1 from ((0, 2, 0x20000000004), (0, 5, 0x1000000000100000000010000000001000000000100000000)), (2, (0, 0)))
noncomputable def e_X7_placings_115_2 : zH 1 := (show zT 1 from ((0, 2, 0x20000000004), (0, 5, 0x1000000000100000000010000000001000000000100000000)), (2, (0, 0)))
noncomputable abbrev es_X7_placings_115 : List (zEn 1) := [([zR 1, zI 0, zR 2], e_X7_placings_115_0), ([zR 1, zI 1, zR 2], e_X7_placings_115_1), ([zR 1, zI 2, zR 2], e_X7_placings_115_2)]
theorem we_X7_placings_115 : zgdR 0 0 (zI 4294967296) (fun f => zfn 6 (b_X7_placingsa f)) es_X7_placings_115 = true := by decide +kernel
theorem ev_X7_placings_115 : zselfR 0 0 (zI 4294967296) es_X7_placings_115 [zR 1, zI 0, zR 2] e_X7_placings_115_0 (zrk (zI 4294967296) e_X7_placings_115_0) = true := by decide +kernel
noncomputable def g_X7_placings_115 {d : Nat} : List zV → zH d → zP d → Bool := zsmy [(0, 0), (0, 2)] [zR 1, zI 0, zR 2] e_X7_placings_115_0 (zI 4294967296) e_X7_placings_115_0
theorem mg_X7_placings_115 {d : Nat} : zMet (d := d) X_X7_placings yX7_placings 9 g_X7_placings_115 := zMet_sm (mr_X7_placingsa es_X7_placings_115 we_X7_placings_115 8 (by decide)) ev_X7_placings_115
noncomputable def e_X7_placings_116_0 : zH 1 := (show zT 1 from ((0, 3, 0x100000000010000000004), (0, 5, 0x1000000000100000000010000000001000000000100000000)), (2, (0, 0)))
noncomputable def e_X7_placings_116_1 : zH 1 := (show zT 1 from ((0, 3, 0x100000000010000000004), (0, 5, 0x1000000000100000000010000000001000000000100000000)), (2, (0, 0)))
noncomputable def e_X7_placings_116_2 : zH 1 := (show zT 1 from ((0, 3, 0x100000000010000000004), (0, 5, 0x1000000000100000000010000000001000000000100000000)), (2, (0, 0)))
noncomputable def e_X7_placings_116_3 : zH 1 := (show zT 1 from ((0, 3, 0x100000000010000000004), (0, 5, 0x1000000000100000000010000000001000000000100000000)), (2, (0, 0)))
noncomputable abbrev es_X7_placings_116 : List (zEn 1) := [([zR 1, zI 0, zR 2], e_X7_placings_116_0), ([zR 1, zI 1, zR 2], e_X7_placings_116_1), ([zR 1, zI 2, zR 2], e_X7_placings_116_2), ([zR 1, zI 3, zR 2], e_X7_placings_116_3)]
theorem we_X7_placings_116 : zgdR 0 0 (zI 4294967296) (fun f => zfn 6 (b_X7_placingsa f)) es_X7_placings_116 = true := by decide +kernel
theorem ev_X7_placings_116 : zselfR 0 0 (zI 4294967296) es_X7_placings_116 [zR 1, zI 0, zR 2] e_X7_placings_116_0 (zrk (zI 4294967296) e_X7_placings_116_0) = true := by decide +kernel
noncomputable def g_X7_placings_116 {d : Nat} : List zV → zH d → zP d → Bool := zsmy [(0, 0), (0, 2)] [zR 1, zI 0, zR 2] e_X7_placings_116_0 (zI 4294967296) e_X7_placings_116_0
theorem mg_X7_placings_116 {d : Nat} : zMet (d := d) X_X7_placings yX7_placings 9 g_X7_placings_116 := zMet_sm (mr_X7_placingsa es_X7_placings_116 we_X7_placings_116 8 (by decide)) ev_X7_placings_116
noncomputable def e_X7_placings_117_0 : zH 1 := (show zT 1 from ((0, 2, 0x30000000003), (0, 5, 0x1000000000100000000010000000001000000000100000000)), (2, (0, 0)))
noncomputable def e_X7_placings_117_1 : zH 1 := (show zT 1 from ((0, 2, 0x30000000003), (0, 5, 0x1000000000100000000010000000001000000000100000000)), (2, (0, 0)))
noncomputable def e_X7_placings_117_2 : zH 1 := (show zT 1 from ((0, 2, 0x30000000003), (0, 5, 0x1000000000100000000010000000001000000000100000000)), (2, (0, 0)))
noncomputable abbrev es_X7_placings_117 : List (zEn 1) := [([zR 1, zI 0, zR 2], e_X7_placings_117_0), ([zR 1, zI 1, zR 2], e_X7_placings_117_1), ([zR 1, zI 2, zR 2], e_X7_placings_117_2)]
theorem we_X7_placings_117 : zgdR 0 0 (zI 4294967296) (fun f => zfn 6 (b_X7_placingsa f)) es_X7_placings_117 = true := by decide +kernel
theorem ev_X7_placings_117 : zselfR 0 0 (zI 4294967296) es_X7_placings_117 [zR 1, zI 0, zR 2] e_X7_placings_117_0 (zrk (zI 4294967296) e_X7_placings_117_0) = true := by decide +kernel
noncomputable def g_X7_placings_117 {d : Nat} : List zV → zH d → zP d → Bool := zsmy [(0, 0), (0, 2)] [zR 1, zI 0, zR 2] e_X7_placings_117_0 (zI 4294967296) e_X7_placings_117_0
theorem mg_X7_placings_117 {d : Nat} : zMet (d := d) X_X7_placings yX7_placings 9 g_X7_placings_117 := zMet_sm (mr_X7_placingsa es_X7_placings_117 we_X7_placings_117 8 (by decide)) ev_X7_placings_117
noncomputable def e_X7_placings_118_0 : zH 1 := (show zT 1 from ((0, 3, 0x100000000020000000003), (0, 5, 0x1000000000100000000010000000001000000000100000000)), (2, (0, 0)))
noncomputable def e_X7_placings_118_1 : zH 1 := (show zT 1 from ((0, 3, 0x100000000020000000003), (0, 5, 0x1000000000100000000010000000001000000000100000000)), (2, (0, 0)))
noncomputable def e_X7_placings_118_2 : zH 1 := (show zT 1 from ((0, 3, 0x100000000020000000003), (0, 5, 0x1000000000100000000010000000001000000000100000000)), (2, (0, 0)))
noncomputable def e_X7_placings_118_3 : zH 1 := (show zT 1 from ((0, 3, 0x100000000020000000003), (0, 5, 0x1000000000100000000010000000001000000000100000000)), (2, (0, 0)))
noncomputable abbrev es_X7_placings_118 : List (zEn 1) := [([zR 1, zI 0, zR 2], e_X7_placings_118_0), ([zR 1, zI 1, zR 2], e_X7_placings_118_1), ([zR 1, zI 2, zR 2], e_X7_placings_118_2), ([zR 1, zI 3, zR 2], e_X7_placings_118_3)]
theorem we_X7_placings_118 : zgdR 0 0 (zI 4294967296) (fun f => zfn 6 (b_X7_placingsa f)) es_X7_placings_118 = true := by decide +kernel
theorem ev_X7_placings_118 : zselfR 0 0 (zI 4294967296) es_X7_placings_118 [zR 1, zI 0, zR 2] e_X7_placings_118_0 (zrk (zI 4294967296) e_X7_placings_118_0) = true := by decide +kernel
noncomputable def g_X7_placings_118 {d : Nat} : List zV → zH d → zP d → Bool := zsmy [(0, 0), (0, 2)] [zR 1, zI 0, zR 2] e_X7_placings_118_0 (zI 4294967296) e_X7_placings_118_0
theorem mg_X7_placings_118 {d : Nat} : zMet (d := d) X_X7_placings yX7_placings 9 g_X7_placings_118 := zMet_sm (mr_X7_placingsa es_X7_placings_118 we_X7_placings_118 8 (by decide)) ev_X7_placings_118
noncomputable def e_X7_placings_119_0 : zH 1 := (show zT 1 from ((0, 4, 0x1000000000100000000010000000003), (0, 5, 0x1000000000100000000010000000001000000000100000000)), (2, (0, 0)))
noncomputable def e_X7_placings_119_1 : zH 1 := (show zT 1 from ((0, 4, 0x1000000000100000000010000000003), (0, 5, 0x1000000000100000000010000000001000000000100000000)), (2, (0, 0)))
noncomputable def e_X7_placings_119_2 : zH 1 := (show zT 1 from ((0, 4, 0x1000000000100000000010000000003), (0, 5, 0x1000000000100000000010000000001000000000100000000)), (2, (0, 0)))
noncomputable def e_X7_placings_119_3 : zH 1 := (show zT 1 from ((0, 4, 0x1000000000100000000010000000003), (0, 5, 0x1000000000100000000010000000001000000000100000000)), (2, (0, 0)))
noncomputable def e_X7_placings_119_4 : zH 1 := (show zT 1 from ((0, 4, 0x1000000000100000000010000000003), (0, 5, 0x1000000000100000000010000000001000000000100000000)), (2, (0, 0)))
noncomputable abbrev es_X7_placings_119 : List (zEn 1) := [([zR 1, zI 0, zR 2], e_X7_placings_119_0), ([zR 1, zI 1, zR 2], e_X7_placings_119_1), ([zR 1, zI 2, zR 2], e_X7_placings_119_2), ([zR 1, zI 3, zR 2], e_X7_placings_119_3), ([zR 1, zI 4, zR 2], e_X7_placings_119_4)]
theorem we_X7_placings_119 : zgdR 0 0 (zI 4294967296) (fun f => zfn 6 (b_X7_placingsa f)) es_X7_placings_119 = true := by decide +kernel
theorem ev_X7_placings_119 : zselfR 0 0 (zI 4294967296) es_X7_placings_119 [zR 1, zI 0, zR 2] e_X7_placings_119_0 (zrk (zI 4294967296) e_X7_placings_119_0) = true := by decide +kernel
noncomputable def g_X7_placings_119 {d : Nat} : List zV → zH d → zP d → Bool := zsmy [(0, 0), (0, 2)] [zR 1, zI 0, zR 2] e_X7_placings_119_0 (zI 4294967296) e_X7_placings_119_0
theorem mg_X7_placings_119 {d : Nat} : zMet (d := d) X_X7_placings yX7_placings 9 g_X7_placings_119 := zMet_sm (mr_X7_placingsa es_X7_placings_119 we_X7_placings_119 8 (by decide)) ev_X7_placings_119
noncomputable def e_X7_placings_120_0 : zH 1 := (show zT 1 from ((0, 3, 0x200000000020000000002), (0, 5, 0x1000000000100000000010000000001000000000100000000)), (2, (0, 0)))
noncomputable def e_X7_placings_120_1 : zH 1 := (show zT 1 from ((0, 3, 0x200000000020000000002), (0, 5, 0x1000000000100000000010000000001000000000100000000)), (2, (0, 0)))
noncomputable def e_X7_placings_120_2 : zH 1 := (show zT 1 from ((0, 3, 0x200000000020000000002), (0, 5, 0x1000000000100000000010000000001000000000100000000)), (2, (0, 0)))
noncomputable def e_X7_placings_120_3 : zH 1 := (show zT 1 from ((0, 3, 0x200000000020000000002), (0, 5, 0x1000000000100000000010000000001000000000100000000)), (2, (0, 0)))
noncomputable abbrev es_X7_placings_120 : List (zEn 1) := [([zR 1, zI 0, zR 2], e_X7_placings_120_0), ([zR 1, zI 1, zR 2], e_X7_placings_120_1), ([zR 1, zI 2, zR 2], e_X7_placings_120_2), ([zR 1, zI 3, zR 2], e_X7_placings_120_3)]
theorem we_X7_placings_120 : zgdR 0 0 (zI 4294967296) (fun f => zfn 6 (b_X7_placingsa f)) es_X7_placings_120 = true := by decide +kernel
theorem ev_X7_placings_120 : zselfR 0 0 (zI 4294967296) es_X7_placings_120 [zR 1, zI 0, zR 2] e_X7_placings_120_0 (zrk (zI 4294967296) e_X7_placings_120_0) = true := by decide +kernel
noncomputable def g_X7_placings_120 {d : Nat} : List zV → zH d → zP d → Bool := zsmy [(0, 0), (0, 2)] [zR 1, zI 0, zR 2] e_X7_placings_120_0 (zI 4294967296) e_X7_placings_120_0
theorem mg_X7_placings_120 {d : Nat} : zMet (d := d) X_X7_placings yX7_placings 9 g_X7_placings_120 := zMet_sm (mr_X7_placingsa es_X7_placings_120 we_X7_placings_120 8 (by decide)) ev_X7_placings_120
noncomputable def e_X7_placings_121_0 : zH 1 := (show zT 1 from ((0, 4, 0x1000000000100000000020000000002), (0, 5, 0x1000000000100000000010000000001000000000100000000)), (2, (0, 0)))
noncomputable def e_X7_placings_121_1 : zH 1 := (show zT 1 from ((0, 4, 0x1000000000100000000020000000002), (0, 5, 0x1000000000100000000010000000001000000000100000000)), (2, (0, 0)))
noncomputable def e_X7_placings_121_2 : zH 1 := (show zT 1 from ((0, 4, 0x1000000000100000000020000000002), (0, 5, 0x1000000000100000000010000000001000000000100000000)), (2, (0, 0)))
noncomputable def e_X7_placings_121_3 : zH 1 := (show zT 1 from ((0, 4, 0x1000000000100000000020000000002), (0, 5, 0x1000000000100000000010000000001000000000100000000)), (2, (0, 0)))
noncomputable def e_X7_placings_121_4 : zH 1 := (show zT 1 from ((0, 4, 0x1000000000100000000020000000002), (0, 5, 0x1000000000100000000010000000001000000000100000000)), (2, (0, 0)))
noncomputable abbrev es_X7_placings_121 : List (zEn 1) := [([zR 1, zI 0, zR 2], e_X7_placings_121_0), ([zR 1, zI 1, zR 2], e_X7_placings_121_1), ([zR 1, zI 2, zR 2], e_X7_placings_121_2), ([zR 1, zI 3, zR 2], e_X7_placings_121_3), ([zR 1, zI 4, zR 2], e_X7_placings_121_4)]
theorem we_X7_placings_121 : zgdR 0 0 (zI 4294967296) (fun f => zfn 6 (b_X7_placingsa f)) es_X7_placings_121 = true := by decide +kernel
theorem ev_X7_placings_121 : zselfR 0 0 (zI 4294967296) es_X7_placings_121 [zR 1, zI 0, zR 2] e_X7_placings_121_0 (zrk (zI 4294967296) e_X7_placings_121_0) = true := by decide +kernel
noncomputable def g_X7_placings_121 {d : Nat} : List zV → zH d → zP d → Bool := zsmy [(0, 0), (0, 2)] [zR 1, zI 0, zR 2] e_X7_placings_121_0 (zI 4294967296) e_X7_placings_121_0
theorem mg_X7_placings_121 {d : Nat} : zMet (d := d) X_X7_placings yX7_placings 9 g_X7_placings_121 := zMet_sm (mr_X7_placingsa es_X7_placings_121 we_X7_placings_121 8 (by decide)) ev_X7_placings_121
noncomputable def e_X7_placings_122_0 : zH 1 := (show zT 1 from ((0, 5, 0x10000000001000000000100000000010000000002), (0, 5, 0x1000000000100000000010000000001000000000100000000)), (2, (0, 0)))
noncomputable def e_X7_placings_122_1 : zH 1 := (show zT 1 from ((0, 5, 0x10000000001000000000100000000010000000002), (0, 5, 0x1000000000100000000010000000001000000000100000000)), (2, (0, 0)))
noncomputable def e_X7_placings_122_2 : zH 1 := (show zT 1 from ((0, 5, 0x10000000001000000000100000000010000000002), (0, 5, 0x1000000000100000000010000000001000000000100000000)), (2, (0, 0)))
noncomputable def e_X7_placings_122_3 : zH 1 := (show zT 1 from ((0, 5, 0x10000000001000000000100000000010000000002), (0, 5, 0x1000000000100000000010000000001000000000100000000)), (2, (0, 0)))
noncomputable def e_X7_placings_122_4 : zH 1 := (show zT 1 from ((0, 5, 0x10000000001000000000100000000010000000002), (0, 5, 0x1000000000100000000010000000001000000000100000000)), (2, (0, 0)))
noncomputable def e_X7_placings_122_5 : zH 1 := (show zT 1 from ((0, 5, 0x10000000001000000000100000000010000000002), (0, 5, 0x1000000000100000000010000000001000000000100000000)), (2, (0, 0)))
noncomputable abbrev es_X7_placings_122 : List (zEn 1) := [([zR 1, zI 0, zR 2], e_X7_placings_122_0), ([zR 1, zI 1, zR 2], e_X7_placings_122_1), ([zR 1, zI 2, zR 2], e_X7_placings_122_2), ([zR 1, zI 3, zR 2], e_X7_placings_122_3), ([zR 1, zI 4, zR 2], e_X7_placings_122_4), ([zR 1, zI 5, zR 2], e_X7_placings_122_5)]
theorem we_X7_placings_122 : zgdR 0 0 (zI 4294967296) (fun f => zfn 6 (b_X7_placingsa f)) es_X7_placings_122 = true := by decide +kernel
theorem ev_X7_placings_122 : zselfR 0 0 (zI 4294967296) es_X7_placings_122 [zR 1, zI 0, zR 2] e_X7_placings_122_0 (zrk (zI 4294967296) e_X7_placings_122_0) = true := by decide +kernel
noncomputable def g_X7_placings_122 {d : Nat} : List zV → zH d → zP d → Bool := zsmy [(0, 0), (0, 2)] [zR 1, zI 0, zR 2] e_X7_placings_122_0 (zI 4294967296) e_X7_placings_122_0
theorem mg_X7_placings_122 {d : Nat} : zMet (d := d) X_X7_placings yX7_placings 9 g_X7_placings_122 := zMet_sm (mr_X7_placingsa es_X7_placings_122 we_X7_placings_122 8 (by decide)) ev_X7_placings_122
noncomputable def e_X7_placings_123_0 : zH 1 := (show zT 1 from (zk_99_zs1_66_X7_placings_0, (0, 5, 0x1000000000100000000010000000001000000000100000000)), (2, (0, 0)))
noncomputable def e_X7_placings_123_1 : zH 1 := (show zT 1 from (zk_99_zs1_66_X7_placings_0, (0, 5, 0x1000000000100000000010000000001000000000100000000)), (2, (0, 0)))
noncomputable def e_X7_placings_123_2 : zH 1 := (show zT 1 from (zk_99_zs1_66_X7_placings_0, (0, 5, 0x1000000000100000000010000000001000000000100000000)), (2, (0, 0)))
noncomputable def e_X7_placings_123_3 : zH 1 := (show zT 1 from (zk_99_zs1_66_X7_placings_0, (0, 5, 0x1000000000100000000010000000001000000000100000000)), (2, (0, 0)))
noncomputable def e_X7_placings_123_4 : zH 1 := (show zT 1 from (zk_99_zs1_66_X7_placings_0, (0, 5, 0x1000000000100000000010000000001000000000100000000)), (2, (0, 0)))
noncomputable def e_X7_placings_123_5 : zH 1 := (show zT 1 from (zk_99_zs1_66_X7_placings_0, (0, 5, 0x1000000000100000000010000000001000000000100000000)), (2, (0, 0)))
noncomputable def e_X7_placings_123_6 : zH 1 := (show zT 1 from (zk_99_zs1_66_X7_placings_0, (0, 5, 0x1000000000100000000010000000001000000000100000000)), (2, (0, 0)))
noncomputable abbrev es_X7_placings_123 : List (zEn 1) := [([zR 1, zI 0, zR 2], e_X7_placings_123_0), ([zR 1, zI 1, zR 2], e_X7_placings_123_1), ([zR 1, zI 2, zR 2], e_X7_placings_123_2), ([zR 1, zI 3, zR 2], e_X7_placings_123_3), ([zR 1, zI 4, zR 2], e_X7_placings_123_4), ([zR 1, zI 5, zR 2], e_X7_placings_123_5), ([zR 1, zI 6, zR 2], e_X7_placings_123_6)]
theorem we_X7_placings_123 : zgdR 0 0 (zI 4294967296) (fun f => zfn 6 (b_X7_placingsa f)) es_X7_placings_123 = true := by decide +kernel
theorem ev_X7_placings_123 : zselfR 0 0 (zI 4294967296) es_X7_placings_123 [zR 1, zI 0, zR 2] e_X7_placings_123_0 (zrk (zI 4294967296) e_X7_placings_123_0) = true := by decide +kernel
noncomputable def g_X7_placings_123 {d : Nat} : List zV → zH d → zP d → Bool := zsmy [(0, 0), (0, 2)] [zR 1, zI 0, zR 2] e_X7_placings_123_0 (zI 4294967296) e_X7_placings_123_0
theorem mg_X7_placings_123 {d : Nat} : zMet (d := d) X_X7_placings yX7_placings 9 g_X7_placings_123 := zMet_sm (mr_X7_placingsa es_X7_placings_123 we_X7_placings_123 8 (by decide)) ev_X7_placings_123
noncomputable def zk_99_zs1_66_X7_placings_1 : zC := (0, 6, 0x10000000001000000000100000000010000000001000000000100000000)
noncomputable def e_X7_placings_124_0 : zH 1 := (show zT 1 from ((0, 1, 6), zk_99_zs1_66_X7_placings_1), (2, (0, 0)))
noncomputable def e_X7_placings_124_1 : zH 1 := (show zT 1 from ((0, 1, 6), zk_99_zs1_66_X7_placings_1), (2, (0, 0)))
noncomputable abbrev es_X7_placings_124 : List (zEn 1) := [([zR 1, zI 0, zR 2], e_X7_placings_124_0), ([zR 1, zI 1, zR 2], e_X7_placings_124_1)]
theorem we_X7_placings_124 : zgdR 0 0 (zI 4294967296) (fun f => zfn 6 (b_X7_placingsa f)) es_X7_placings_124 = true := by decide +kernel
theorem ev_X7_placings_124 : zselfR 0 0 (zI 4294967296) es_X7_placings_124 [zR 1, zI 0, zR 2] e_X7_placings_124_0 (zrk (zI 4294967296) e_X7_placings_124_0) = true := by decide +kernel
noncomputable def g_X7_placings_124 {d : Nat} : List zV → zH d → zP d → Bool := zsmy [(0, 0), (0, 2)] [zR 1, zI 0, zR 2] e_X7_placings_124_0 (zI 4294967296) e_X7_placings_124_0
theorem mg_X7_placings_124 {d : Nat} : zMet (d := d) X_X7_placings yX7_placings 9 g_X7_placings_124 := zMet_sm (mr_X7_placingsa es_X7_placings_124 we_X7_placings_124 8 (by decide)) ev_X7_placings_124
noncomputable def e_X7_placings_125_0 : zH 1 := (show zT 1 from ((0, 2, 0x10000000005), zk_99_zs1_66_X7_placings_1), (2, (0, 0)))
noncomputable def e_X7_placings_125_1 : zH 1 := (show zT 1 from ((0, 2, 0x10000000005), zk_99_zs1_66_X7_placings_1), (2, (0, 0)))
noncomputable def e_X7_placings_125_2 : zH 1 := (show zT 1 from ((0, 2, 0x10000000005), zk_99_zs1_66_X7_placings_1), (2, (0, 0)))
noncomputable abbrev es_X7_placings_125 : List (zEn 1) := [([zR 1, zI 0, zR 2], e_X7_placings_125_0), ([zR 1, zI 1, zR 2], e_X7_placings_125_1), ([zR 1, zI 2, zR 2], e_X7_placings_125_2)]
theorem we_X7_placings_125 : zgdR 0 0 (zI 4294967296) (fun f => zfn 6 (b_X7_placingsa f)) es_X7_placings_125 = true := by decide +kernel
theorem ev_X7_placings_125 : zselfR 0 0 (zI 4294967296) es_X7_placings_125 [zR 1, zI 0, zR 2] e_X7_placings_125_0 (zrk (zI 4294967296) e_X7_placings_125_0) = true := by decide +kernel
noncomputable def g_X7_placings_125 {d : Nat} : List zV → zH d → zP d → Bool := zsmy [(0, 0), (0, 2)] [zR 1, zI 0, zR 2] e_X7_placings_125_0 (zI 4294967296) e_X7_placings_125_0
theorem mg_X7_placings_125 {d : Nat} : zMet (d := d) X_X7_placings yX7_placings 9 g_X7_placings_125 := zMet_sm (mr_X7_placingsa es_X7_placings_125 we_X7_placings_125 8 (by decide)) ev_X7_placings_125
noncomputable def e_X7_placings_126_0 : zH 1 := (show zT 1 from ((0, 2, 0x20000000004), zk_99_zs1_66_X7_placings_1), (2, (0, 0)))
noncomputable def e_X7_placings_126_1 : zH 1 := (show zT 1 from ((0, 2, 0x20000000004), zk_99_zs1_66_X7_placings_1), (2, (0, 0)))
noncomputable def e_X7_placings_126_2 : zH 1 := (show zT 1 from ((0, 2, 0x20000000004), zk_99_zs1_66_X7_placings_1), (2, (0, 0)))
noncomputable abbrev es_X7_placings_126 : List (zEn 1) := [([zR 1, zI 0, zR 2], e_X7_placings_126_0), ([zR 1, zI 1, zR 2], e_X7_placings_126_1), ([zR 1, zI 2, zR 2], e_X7_placings_126_2)]
theorem we_X7_placings_126 : zgdR 0 0 (zI 4294967296) (fun f => zfn 6 (b_X7_placingsa f)) es_X7_placings_126 = true := by decide +kernel
theorem ev_X7_placings_126 : zselfR 0 0 (zI 4294967296) es_X7_placings_126 [zR 1, zI 0, zR 2] e_X7_placings_126_0 (zrk (zI 4294967296) e_X7_placings_126_0) = true := by decide +kernel
noncomputable def g_X7_placings_126 {d : Nat} : List zV → zH d → zP d → Bool := zsmy [(0, 0), (0, 2)] [zR 1, zI 0, zR 2] e_X7_placings_126_0 (zI 4294967296) e_X7_placings_126_0
theorem mg_X7_placings_126 {d : Nat} : zMet (d := d) X_X7_placings yX7_placings 9 g_X7_placings_126 := zMet_sm (mr_X7_placingsa es_X7_placings_126 we_X7_placings_126 8 (by decide)) ev_X7_placings_126
noncomputable def e_X7_placings_127_0 : zH 1 := (show zT 1 from ((0, 3, 0x100000000010000000004), zk_99_zs1_66_X7_placings_1), (2, (0, 0)))
noncomputable def e_X7_placings_127_1 : zH 1 := (show zT 1 from ((0, 3, 0x100000000010000000004), zk_99_zs1_66_X7_placings_1), (2, (0, 0)))
noncomputable def e_X7_placings_127_2 : zH 1 := (show zT 1 from ((0, 3, 0x100000000010000000004), zk_99_zs1_66_X7_placings_1), (2, (0, 0)))
noncomputable def e_X7_placings_127_3 : zH 1 := (show zT 1 from ((0, 3, 0x100000000010000000004), zk_99_zs1_66_X7_placings_1), (2, (0, 0)))
noncomputable abbrev es_X7_placings_127 : List (zEn 1) := [([zR 1, zI 0, zR 2], e_X7_placings_127_0), ([zR 1, zI 1, zR 2], e_X7_placings_127_1), ([zR 1, zI 2, zR 2], e_X7_placings_127_2), ([zR 1, zI 3, zR 2], e_X7_placings_127_3)]
theorem we_X7_placings_127 : zgdR 0 0 (zI 4294967296) (fun f => zfn 6 (b_X7_placingsa f)) es_X7_placings_127 = true := by decide +kernel
theorem ev_X7_placings_127 : zselfR 0 0 (zI 4294967296) es_X7_placings_127 [zR 1, zI 0, zR 2] e_X7_placings_127_0 (zrk (zI 4294967296) e_X7_placings_127_0) = true := by decide +kernel
noncomputable def g_X7_placings_127 {d : Nat} : List zV → zH d → zP d → Bool := zsmy [(0, 0), (0, 2)] [zR 1, zI 0, zR 2] e_X7_placings_127_0 (zI 4294967296) e_X7_placings_127_0
theorem mg_X7_placings_127 {d : Nat} : zMet (d := d) X_X7_placings yX7_placings 9 g_X7_placings_127 := zMet_sm (mr_X7_placingsa es_X7_placings_127 we_X7_placings_127 8 (by decide)) ev_X7_placings_127
noncomputable def e_X7_placings_128_0 : zH 1 := (show zT 1 from ((0, 2, 0x30000000003), zk_99_zs1_66_X7_placings_1), (2, (0, 0)))
noncomputable def e_X7_placings_128_1 : zH 1 := (show zT 1 from ((0, 2, 0x30000000003), zk_99_zs1_66_X7_placings_1), (2, (0, 0)))
noncomputable def e_X7_placings_128_2 : zH 1 := (show zT 1 from ((0, 2, 0x30000000003), zk_99_zs1_66_X7_placings_1), (2, (0, 0)))
noncomputable abbrev es_X7_placings_128 : List (zEn 1) := [([zR 1, zI 0, zR 2], e_X7_placings_128_0), ([zR 1, zI 1, zR 2], e_X7_placings_128_1), ([zR 1, zI 2, zR 2], e_X7_placings_128_2)]
theorem we_X7_placings_128 : zgdR 0 0 (zI 4294967296) (fun f => zfn 6 (b_X7_placingsa f)) es_X7_placings_128 = true := by decide +kernel
theorem ev_X7_placings_128 : zselfR 0 0 (zI 4294967296) es_X7_placings_128 [zR 1, zI 0, zR 2] e_X7_placings_128_0 (zrk (zI 4294967296) e_X7_placings_128_0) = true := by decide +kernel
noncomputable def g_X7_placings_128 {d : Nat} : List zV → zH d → zP d → Bool := zsmy [(0, 0), (0, 2)] [zR 1, zI 0, zR 2] e_X7_placings_128_0 (zI 4294967296) e_X7_placings_128_0
theorem mg_X7_placings_128 {d : Nat} : zMet (d := d) X_X7_placings yX7_placings 9 g_X7_placings_128 := zMet_sm (mr_X7_placingsa es_X7_placings_128 we_X7_placings_128 8 (by decide)) ev_X7_placings_128
noncomputable def e_X7_placings_129_0 : zH 1 := (show zT 1 from ((0, 3, 0x100000000020000000003), zk_99_zs1_66_X7_placings_1), (2, (0, 0)))
noncomputable def e_X7_placings_129_1 : zH 1 := (show zT 1 from ((0, 3, 0x100000000020000000003), zk_99_zs1_66_X7_placings_1), (2, (0, 0)))
noncomputable def e_X7_placings_129_2 : zH 1 := (show zT 1 from ((0, 3, 0x100000000020000000003), zk_99_zs1_66_X7_placings_1), (2, (0, 0)))
noncomputable def e_X7_placings_129_3 : zH 1 := (show zT 1 from ((0, 3, 0x100000000020000000003), zk_99_zs1_66_X7_placings_1), (2, (0, 0)))
noncomputable abbrev es_X7_placings_129 : List (zEn 1) := [([zR 1, zI 0, zR 2], e_X7_placings_129_0), ([zR 1, zI 1, zR 2], e_X7_placings_129_1), ([zR 1, zI 2, zR 2], e_X7_placings_129_2), ([zR 1, zI 3, zR 2], e_X7_placings_129_3)]
theorem we_X7_placings_129 : zgdR 0 0 (zI 4294967296) (fun f => zfn 6 (b_X7_placingsa f)) es_X7_placings_129 = true := by decide +kernel
theorem ev_X7_placings_129 : zselfR 0 0 (zI 4294967296) es_X7_placings_129 [zR 1, zI 0, zR 2] e_X7_placings_129_0 (zrk (zI 4294967296) e_X7_placings_129_0) = true := by decide +kernel
noncomputable def g_X7_placings_129 {d : Nat} : List zV → zH d → zP d → Bool := zsmy [(0, 0), (0, 2)] [zR 1, zI 0, zR 2] e_X7_placings_129_0 (zI 4294967296) e_X7_placings_129_0
theorem mg_X7_placings_129 {d : Nat} : zMet (d := d) X_X7_placings yX7_placings 9 g_X7_placings_129 := zMet_sm (mr_X7_placingsa es_X7_placings_129 we_X7_placings_129 8 (by decide)) ev_X7_placings_129
noncomputable def e_X7_placings_130_0 : zH 1 := (show zT 1 from ((0, 4, 0x1000000000100000000010000000003), zk_99_zs1_66_X7_placings_1), (2, (0, 0)))
noncomputable def e_X7_placings_130_1 : zH 1 := (show zT 1 from ((0, 4, 0x1000000000100000000010000000003), zk_99_zs1_66_X7_placings_1), (2, (0, 0)))
noncomputable def e_X7_placings_130_2 : zH 1 := (show zT 1 from ((0, 4, 0x1000000000100000000010000000003), zk_99_zs1_66_X7_placings_1), (2, (0, 0)))
noncomputable def e_X7_placings_130_3 : zH 1 := (show zT 1 from ((0, 4, 0x1000000000100000000010000000003), zk_99_zs1_66_X7_placings_1), (2, (0, 0)))
noncomputable def e_X7_placings_130_4 : zH 1 := (show zT 1 from ((0, 4, 0x1000000000100000000010000000003), zk_99_zs1_66_X7_placings_1), (2, (0, 0)))
noncomputable abbrev es_X7_placings_130 : List (zEn 1) := [([zR 1, zI 0, zR 2], e_X7_placings_130_0), ([zR 1, zI 1, zR 2], e_X7_placings_130_1), ([zR 1, zI 2, zR 2], e_X7_placings_130_2), ([zR 1, zI 3, zR 2], e_X7_placings_130_3), ([zR 1, zI 4, zR 2], e_X7_placings_130_4)]
theorem we_X7_placings_130 : zgdR 0 0 (zI 4294967296) (fun f => zfn 6 (b_X7_placingsa f)) es_X7_placings_130 = true := by decide +kernel
theorem ev_X7_placings_130 : zselfR 0 0 (zI 4294967296) es_X7_placings_130 [zR 1, zI 0, zR 2] e_X7_placings_130_0 (zrk (zI 4294967296) e_X7_placings_130_0) = true := by decide +kernel
noncomputable def g_X7_placings_130 {d : Nat} : List zV → zH d → zP d → Bool := zsmy [(0, 0), (0, 2)] [zR 1, zI 0, zR 2] e_X7_placings_130_0 (zI 4294967296) e_X7_placings_130_0
theorem mg_X7_placings_130 {d : Nat} : zMet (d := d) X_X7_placings yX7_placings 9 g_X7_placings_130 := zMet_sm (mr_X7_placingsa es_X7_placings_130 we_X7_placings_130 8 (by decide)) ev_X7_placings_130
noncomputable def e_X7_placings_131_0 : zH 1 := (show zT 1 from ((0, 3, 0x200000000020000000002), zk_99_zs1_66_X7_placings_1), (2, (0, 0)))
noncomputable def e_X7_placings_131_1 : zH 1 := (show zT 1 from ((0, 3, 0x200000000020000000002), zk_99_zs1_66_X7_placings_1), (2, (0, 0)))
noncomputable def e_X7_placings_131_2 : zH 1 := (show zT 1 from ((0, 3, 0x200000000020000000002), zk_99_zs1_66_X7_placings_1), (2, (0, 0)))
noncomputable def e_X7_placings_131_3 : zH 1 := (show zT 1 from ((0, 3, 0x200000000020000000002), zk_99_zs1_66_X7_placings_1), (2, (0, 0)))
noncomputable abbrev es_X7_placings_131 : List (zEn 1) := [([zR 1, zI 0, zR 2], e_X7_placings_131_0), ([zR 1, zI 1, zR 2], e_X7_placings_131_1), ([zR 1, zI 2, zR 2], e_X7_placings_131_2), ([zR 1, zI 3, zR 2], e_X7_placings_131_3)]
theorem we_X7_placings_131 : zgdR 0 0 (zI 4294967296) (fun f => zfn 6 (b_X7_placingsa f)) es_X7_placings_131 = true := by decide +kernel
theorem ev_X7_placings_131 : zselfR 0 0 (zI 4294967296) es_X7_placings_131 [zR 1, zI 0, zR 2] e_X7_placings_131_0 (zrk (zI 4294967296) e_X7_placings_131_0) = true := by decide +kernel
noncomputable def g_X7_placings_131 {d : Nat} : List zV → zH d → zP d → Bool := zsmy [(0, 0), (0, 2)] [zR 1, zI 0, zR 2] e_X7_placings_131_0 (zI 4294967296) e_X7_placings_131_0
theorem mg_X7_placings_131 {d : Nat} : zMet (d := d) X_X7_placings yX7_placings 9 g_X7_placings_131 := zMet_sm (mr_X7_placingsa es_X7_placings_131 we_X7_placings_131 8 (by decide)) ev_X7_placings_131
noncomputable def e_X7_placings_132_0 : zH 1 := (show zT 1 from ((0, 4, 0x1000000000100000000020000000002), zk_99_zs1_66_X7_placings_1), (2, (0, 0)))
noncomputable def e_X7_placings_132_1 : zH 1 := (show zT 1 from ((0, 4, 0x1000000000100000000020000000002), zk_99_zs1_66_X7_placings_1), (2, (0, 0)))
noncomputable def e_X7_placings_132_2 : zH 1 := (show zT 1 from ((0, 4, 0x1000000000100000000020000000002), zk_99_zs1_66_X7_placings_1), (2, (0, 0)))
noncomputable def e_X7_placings_132_3 : zH 1 := (show zT 1 from ((0, 4, 0x1000000000100000000020000000002), zk_99_zs1_66_X7_placings_1), (2, (0, 0)))
noncomputable def e_X7_placings_132_4 : zH 1 := (show zT 1 from ((0, 4, 0x1000000000100000000020000000002), zk_99_zs1_66_X7_placings_1), (2, (0, 0)))
noncomputable abbrev es_X7_placings_132 : List (zEn 1) := [([zR 1, zI 0, zR 2], e_X7_placings_132_0), ([zR 1, zI 1, zR 2], e_X7_placings_132_1), ([zR 1, zI 2, zR 2], e_X7_placings_132_2), ([zR 1, zI 3, zR 2], e_X7_placings_132_3), ([zR 1, zI 4, zR 2], e_X7_placings_132_4)]
theorem we_X7_placings_132 : zgdR 0 0 (zI 4294967296) (fun f => zfn 6 (b_X7_placingsa f)) es_X7_placings_132 = true := by decide +kernel
theorem ev_X7_placings_132 : zselfR 0 0 (zI 4294967296) es_X7_placings_132 [zR 1, zI 0, zR 2] e_X7_placings_132_0 (zrk (zI 4294967296) e_X7_placings_132_0) = true := by decide +kernel
noncomputable def g_X7_placings_132 {d : Nat} : List zV → zH d → zP d → Bool := zsmy [(0, 0), (0, 2)] [zR 1, zI 0, zR 2] e_X7_placings_132_0 (zI 4294967296) e_X7_placings_132_0
theorem mg_X7_placings_132 {d : Nat} : zMet (d := d) X_X7_placings yX7_placings 9 g_X7_placings_132 := zMet_sm (mr_X7_placingsa es_X7_placings_132 we_X7_placings_132 8 (by decide)) ev_X7_placings_132
noncomputable def e_X7_placings_133_0 : zH 1 := (show zT 1 from ((0, 5, 0x10000000001000000000100000000010000000002), zk_99_zs1_66_X7_placings_1), (2, (0, 0)))
noncomputable def e_X7_placings_133_1 : zH 1 := (show zT 1 from ((0, 5, 0x10000000001000000000100000000010000000002), zk_99_zs1_66_X7_placings_1), (2, (0, 0)))
noncomputable def e_X7_placings_133_2 : zH 1 := (show zT 1 from ((0, 5, 0x10000000001000000000100000000010000000002), zk_99_zs1_66_X7_placings_1), (2, (0, 0)))
noncomputable def e_X7_placings_133_3 : zH 1 := (show zT 1 from ((0, 5, 0x10000000001000000000100000000010000000002), zk_99_zs1_66_X7_placings_1), (2, (0, 0)))
noncomputable def e_X7_placings_133_4 : zH 1 := (show zT 1 from ((0, 5, 0x10000000001000000000100000000010000000002), zk_99_zs1_66_X7_placings_1), (2, (0, 0)))
noncomputable def e_X7_placings_133_5 : zH 1 := (show zT 1 from ((0, 5, 0x10000000001000000000100000000010000000002), zk_99_zs1_66_X7_placings_1), (2, (0, 0)))
noncomputable abbrev es_X7_placings_133 : List (zEn 1) := [([zR 1, zI 0, zR 2], e_X7_placings_133_0), ([zR 1, zI 1, zR 2], e_X7_placings_133_1), ([zR 1, zI 2, zR 2], e_X7_placings_133_2), ([zR 1, zI 3, zR 2], e_X7_placings_133_3), ([zR 1, zI 4, zR 2], e_X7_placings_133_4), ([zR 1, zI 5, zR 2], e_X7_placings_133_5)]
theorem we_X7_placings_133 : zgdR 0 0 (zI 4294967296) (fun f => zfn 6 (b_X7_placingsa f)) es_X7_placings_133 = true := by decide +kernel
theorem ev_X7_placings_133 : zselfR 0 0 (zI 4294967296) es_X7_placings_133 [zR 1, zI 0, zR 2] e_X7_placings_133_0 (zrk (zI 4294967296) e_X7_placings_133_0) = true := by decide +kernel
noncomputable def g_X7_placings_133 {d : Nat} : List zV → zH d → zP d → Bool := zsmy [(0, 0), (0, 2)] [zR 1, zI 0, zR 2] e_X7_placings_133_0 (zI 4294967296) e_X7_placings_133_0
theorem mg_X7_placings_133 {d : Nat} : zMet (d := d) X_X7_placings yX7_placings 9 g_X7_placings_133 := zMet_sm (mr_X7_placingsa es_X7_placings_133 we_X7_placings_133 8 (by decide)) ev_X7_placings_133
noncomputable def e_X7_placings_134_0 : zH 1 := (show zT 1 from (zk_99_zs1_66_X7_placings_0, zk_99_zs1_66_X7_placings_1), (2, (0, 0)))
noncomputable def e_X7_placings_134_1 : zH 1 := (show zT 1 from (zk_99_zs1_66_X7_placings_0, zk_99_zs1_66_X7_placings_1), (2, (0, 0)))
noncomputable def e_X7_placings_134_2 : zH 1 := (show zT 1 from (zk_99_zs1_66_X7_placings_0, zk_99_zs1_66_X7_placings_1), (2, (0, 0)))
noncomputable def e_X7_placings_134_3 : zH 1 := (show zT 1 from (zk_99_zs1_66_X7_placings_0, zk_99_zs1_66_X7_placings_1), (2, (0, 0)))
noncomputable def e_X7_placings_134_4 : zH 1 := (show zT 1 from (zk_99_zs1_66_X7_placings_0, zk_99_zs1_66_X7_placings_1), (2, (0, 0)))
noncomputable def e_X7_placings_134_5 : zH 1 := (show zT 1 from (zk_99_zs1_66_X7_placings_0, zk_99_zs1_66_X7_placings_1), (2, (0, 0)))
noncomputable def e_X7_placings_134_6 : zH 1 := (show zT 1 from (zk_99_zs1_66_X7_placings_0, zk_99_zs1_66_X7_placings_1), (2, (0, 0)))
noncomputable abbrev es_X7_placings_134 : List (zEn 1) := [([zR 1, zI 0, zR 2], e_X7_placings_134_0), ([zR 1, zI 1, zR 2], e_X7_placings_134_1), ([zR 1, zI 2, zR 2], e_X7_placings_134_2), ([zR 1, zI 3, zR 2], e_X7_placings_134_3), ([zR 1, zI 4, zR 2], e_X7_placings_134_4), ([zR 1, zI 5, zR 2], e_X7_placings_134_5), ([zR 1, zI 6, zR 2], e_X7_placings_134_6)]
theorem we_X7_placings_134 : zgdR 0 0 (zI 4294967296) (fun f => zfn 6 (b_X7_placingsa f)) es_X7_placings_134 = true := by decide +kernel
theorem ev_X7_placings_134 : zselfR 0 0 (zI 4294967296) es_X7_placings_134 [zR 1, zI 0, zR 2] e_X7_placings_134_0 (zrk (zI 4294967296) e_X7_placings_134_0) = true := by decide +kernel
noncomputable def g_X7_placings_134 {d : Nat} : List zV → zH d → zP d → Bool := zsmy [(0, 0), (0, 2)] [zR 1, zI 0, zR 2] e_X7_placings_134_0 (zI 4294967296) e_X7_placings_134_0
theorem mg_X7_placings_134 {d : Nat} : zMet (d := d) X_X7_placings yX7_placings 9 g_X7_placings_134 := zMet_sm (mr_X7_placingsa es_X7_placings_134 we_X7_placings_134 8 (by decide)) ev_X7_placings_134
noncomputable def g_X7_placings {d : Nat} : List zV → zH d → zP d → Bool := (zor2 g_X7_placings_0 (zor2 g_X7_placings_1 (zor2 g_X7_placings_2 (zor2 g_X7_placings_3 (zor2 g_X7_placings_4 (zor2 g_X7_placings_5 (zor2 g_X7_placings_6 (zor2 g_X7_placings_7 (zor2 g_X7_placings_8 (zor2 g_X7_placings_9 (zor2 g_X7_placings_10 (zor2 g_X7_placings_11 (zor2 g_X7_placings_12 (zor2 g_X7_placings_13 (zor2 g_X7_placings_14 (zor2 g_X7_placings_15 (zor2 g_X7_placings_16 (zor2 g_X7_placings_17 (zor2 g_X7_placings_18 (zor2 g_X7_placings_19 (zor2 g_X7_placings_20 (zor2 g_X7_placings_21 (zor2 g_X7_placings_22 (zor2 g_X7_placings_23 (zor2 g_X7_placings_24 (zor2 g_X7_placings_25 (zor2 g_X7_placings_26 (zor2 g_X7_placings_27 (zor2 g_X7_placings_28 (zor2 g_X7_placings_29 (zor2 g_X7_placings_30 (zor2 g_X7_placings_31 (zor2 g_X7_placings_32 (zor2 g_X7_placings_33 (zor2 g_X7_placings_34 (zor2 g_X7_placings_35 (zor2 g_X7_placings_36 (zor2 g_X7_placings_37 (zor2 g_X7_placings_38 (zor2 g_X7_placings_39 (zor2 g_X7_placings_40 (zor2 g_X7_placings_41 (zor2 g_X7_placings_42 (zor2 g_X7_placings_43 (zor2 g_X7_placings_44 (zor2 g_X7_placings_45 (zor2 g_X7_placings_46 (zor2 g_X7_placings_47 (zor2 g_X7_placings_48 (zor2 g_X7_placings_49 (zor2 g_X7_placings_50 (zor2 g_X7_placings_51 (zor2 g_X7_placings_52 (zor2 g_X7_placings_53 (zor2 g_X7_placings_54 (zor2 g_X7_placings_55 (zor2 g_X7_placings_56 (zor2 g_X7_placings_57 (zor2 g_X7_placings_58 (zor2 g_X7_placings_59 (zor2 g_X7_placings_60 (zor2 g_X7_placings_61 (zor2 g_X7_placings_62 (zor2 g_X7_placings_63 (zor2 g_X7_placings_64 (zor2 g_X7_placings_65 (zor2 g_X7_placings_66 (zor2 g_X7_placings_67 (zor2 g_X7_placings_68 (zor2 g_X7_placings_69 (zor2 g_X7_placings_70 (zor2 g_X7_placings_71 (zor2 g_X7_placings_72 (zor2 g_X7_placings_73 (zor2 g_X7_placings_74 (zor2 g_X7_placings_75 (zor2 g_X7_placings_76 (zor2 g_X7_placings_77 (zor2 g_X7_placings_78 (zor2 g_X7_placings_79 (zor2 g_X7_placings_80 (zor2 g_X7_placings_81 (zor2 g_X7_placings_82 (zor2 g_X7_placings_83 (zor2 g_X7_placings_84 (zor2 g_X7_placings_85 (zor2 g_X7_placings_86 (zor2 g_X7_placings_87 (zor2 g_X7_placings_88 (zor2 g_X7_placings_89 (zor2 g_X7_placings_90 (zor2 g_X7_placings_91 (zor2 g_X7_placings_92 (zor2 g_X7_placings_93 (zor2 g_X7_placings_94 (zor2 g_X7_placings_95 (zor2 g_X7_placings_96 (zor2 g_X7_placings_97 (zor2 g_X7_placings_98 (zor2 g_X7_placings_99 (zor2 g_X7_placings_100 (zor2 g_X7_placings_101 (zor2 g_X7_placings_102 (zor2 g_X7_placings_103 (zor2 g_X7_placings_104 (zor2 g_X7_placings_105 (zor2 g_X7_placings_106 (zor2 g_X7_placings_107 (zor2 g_X7_placings_108 (zor2 g_X7_placings_109 (zor2 g_X7_placings_110 (zor2 g_X7_placings_111 (zor2 g_X7_placings_112 (zor2 g_X7_placings_113 (zor2 g_X7_placings_114 (zor2 g_X7_placings_115 (zor2 g_X7_placings_116 (zor2 g_X7_placings_117 (zor2 g_X7_placings_118 (zor2 g_X7_placings_119 (zor2 g_X7_placings_120 (zor2 g_X7_placings_121 (zor2 g_X7_placings_122 (zor2 g_X7_placings_123 (zor2 g_X7_placings_124 (zor2 g_X7_placings_125 (zor2 g_X7_placings_126 (zor2 g_X7_placings_127 (zor2 g_X7_placings_128 (zor2 g_X7_placings_129 (zor2 g_X7_placings_130 (zor2 g_X7_placings_131 (zor2 g_X7_placings_132 (zor2 g_X7_placings_133 (zor2 g_X7_placings_134 (fun _ _ _ => false))))))))))))))))))))))))))))))))))))))))))))))))))))))))))))))))))))))))))))))))))))))))))))))))))))))))))))))))))))))))))))))))))))))))
theorem mg_X7_placings {d : Nat} : zMet (d := d) X_X7_placings yX7_placings 9 g_X7_placings := (zMet_or mg_X7_placings_0 (zMet_or mg_X7_placings_1 (zMet_or mg_X7_placings_2 (zMet_or mg_X7_placings_3 (zMet_or mg_X7_placings_4 (zMet_or mg_X7_placings_5 (zMet_or mg_X7_placings_6 (zMet_or mg_X7_placings_7 (zMet_or mg_X7_placings_8 (zMet_or mg_X7_placings_9 (zMet_or mg_X7_placings_10 (zMet_or mg_X7_placings_11 (zMet_or mg_X7_placings_12 (zMet_or mg_X7_placings_13 (zMet_or mg_X7_placings_14 (zMet_or mg_X7_placings_15 (zMet_or mg_X7_placings_16 (zMet_or mg_X7_placings_17 (zMet_or mg_X7_placings_18 (zMet_or mg_X7_placings_19 (zMet_or mg_X7_placings_20 (zMet_or mg_X7_placings_21 (zMet_or mg_X7_placings_22 (zMet_or mg_X7_placings_23 (zMet_or mg_X7_placings_24 (zMet_or mg_X7_placings_25 (zMet_or mg_X7_placings_26 (zMet_or mg_X7_placings_27 (zMet_or mg_X7_placings_28 (zMet_or mg_X7_placings_29 (zMet_or mg_X7_placings_30 (zMet_or mg_X7_placings_31 (zMet_or mg_X7_placings_32 (zMet_or mg_X7_placings_33 (zMet_or mg_X7_placings_34 (zMet_or mg_X7_placings_35 (zMet_or mg_X7_placings_36 (zMet_or mg_X7_placings_37 (zMet_or mg_X7_placings_38 (zMet_or mg_X7_placings_39 (zMet_or mg_X7_placings_40 (zMet_or mg_X7_placings_41 (zMet_or mg_X7_placings_42 (zMet_or mg_X7_placings_43 (zMet_or mg_X7_placings_44 (zMet_or mg_X7_placings_45 (zMet_or mg_X7_placings_46 (zMet_or mg_X7_placings_47 (zMet_or mg_X7_placings_48 (zMet_or mg_X7_placings_49 (zMet_or mg_X7_placings_50 (zMet_or mg_X7_placings_51 (zMet_or mg_X7_placings_52 (zMet_or mg_X7_placings_53 (zMet_or mg_X7_placings_54 (zMet_or mg_X7_placings_55 (zMet_or mg_X7_placings_56 (zMet_or mg_X7_placings_57 (zMet_or mg_X7_placings_58 (zMet_or mg_X7_placings_59 (zMet_or mg_X7_placings_60 (zMet_or mg_X7_placings_61 (zMet_or mg_X7_placings_62 (zMet_or mg_X7_placings_63 (zMet_or mg_X7_placings_64 (zMet_or mg_X7_placings_65 (zMet_or mg_X7_placings_66 (zMet_or mg_X7_placings_67 (zMet_or mg_X7_placings_68 (zMet_or mg_X7_placings_69 (zMet_or mg_X7_placings_70 (zMet_or mg_X7_placings_71 (zMet_or mg_X7_placings_72 (zMet_or mg_X7_placings_73 (zMet_or mg_X7_placings_74 (zMet_or mg_X7_placings_75 (zMet_or mg_X7_placings_76 (zMet_or mg_X7_placings_77 (zMet_or mg_X7_placings_78 (zMet_or mg_X7_placings_79 (zMet_or mg_X7_placings_80 (zMet_or mg_X7_placings_81 (zMet_or mg_X7_placings_82 (zMet_or mg_X7_placings_83 (zMet_or mg_X7_placings_84 (zMet_or mg_X7_placings_85 (zMet_or mg_X7_placings_86 (zMet_or mg_X7_placings_87 (zMet_or mg_X7_placings_88 (zMet_or mg_X7_placings_89 (zMet_or mg_X7_placings_90 (zMet_or mg_X7_placings_91 (zMet_or mg_X7_placings_92 (zMet_or mg_X7_placings_93 (zMet_or mg_X7_placings_94 (zMet_or mg_X7_placings_95 (zMet_or mg_X7_placings_96 (zMet_or mg_X7_placings_97 (zMet_or mg_X7_placings_98 (zMet_or mg_X7_placings_99 (zMet_or mg_X7_placings_100 (zMet_or mg_X7_placings_101 (zMet_or mg_X7_placings_102 (zMet_or mg_X7_placings_103 (zMet_or mg_X7_placings_104 (zMet_or mg_X7_placings_105 (zMet_or mg_X7_placings_106 (zMet_or mg_X7_placings_107 (zMet_or mg_X7_placings_108 (zMet_or mg_X7_placings_109 (zMet_or mg_X7_placings_110 (zMet_or mg_X7_placings_111 (zMet_or mg_X7_placings_112 (zMet_or mg_X7_placings_113 (zMet_or mg_X7_placings_114 (zMet_or mg_X7_placings_115 (zMet_or mg_X7_placings_116 (zMet_or mg_X7_placings_117 (zMet_or mg_X7_placings_118 (zMet_or mg_X7_placings_119 (zMet_or mg_X7_placings_120 (zMet_or mg_X7_placings_121 (zMet_or mg_X7_placings_122 (zMet_or mg_X7_placings_123 (zMet_or mg_X7_placings_124 (zMet_or mg_X7_placings_125 (zMet_or mg_X7_placings_126 (zMet_or mg_X7_placings_127 (zMet_or mg_X7_placings_128 (zMet_or mg_X7_placings_129 (zMet_or mg_X7_placings_130 (zMet_or mg_X7_placings_131 (zMet_or mg_X7_placings_132 (zMet_or mg_X7_placings_133 (zMet_or mg_X7_placings_134 zfalse)))))))))))))))))))))))))))))))))))))))))))))))))))))))))))))))))))))))))))))))))))))))))))))))))))))))))))))))))))))))))))))))))))))))
end
section
/-! the class by summaries, by program -/
noncomputable def lX7_makeMarksa_28 {d : Nat} (P : zP d) (r2 : zK d) (r28 : zK d) : zK d := (xild 3 (xald 0 (xgfI 23 1 (xcmpS tgeR rlGe rhS rlS rhLt (xincR 1 1 r2) (xald 0 (xgfR 23 11 (xild 1 (xaaT (xild 3 (xald 0 (xgfR 23 3 (xild 3 (xaaT (xgfR 20 2 (xpI 0 (xald 2 (xcS 3 0 0 (zstr g_X7_placings) (xasQ 0 (fun v => v) (xincR 3 1 r28)))))))))))))))))))
set_option maxRecDepth 100000 in
set_option maxHeartbeats 4000000 in
theorem slX7_makeMarksa_28 {d : Nat} [zGh] (P : zP d) (r2 : zK d) (r28 : zK d) (hr2 : zSimJ 1 X_X7_makeMarks 10 P 2 r2) (hr28 : zSimJ 1 X_X7_makeMarks 10 P 28 r28) : zSim X_X7_makeMarks 10 P 28 (lX7_makeMarksa_28 P r2 r28) := by
  unfold lX7_makeMarksa_28
  refine sm_iload_n (pc := 28) (n := 3) dX7_makeMarks_28 rfl ?_
  refine sm_aload_n (pc := 29) (n := 0) dX7_makeMarks_29 rfl ?_
  refine gf_X7_19 (pc := 30) rfl dX7_makeMarks_30 ?_
  refine sm_icmpS_ge (pc := 33) (tgt := 64) dX7_makeMarks_33 (by decide) ?_ ?_
  · skip
    refine sm_iincR (pc := 64) (n := 1) dX7_makeMarks_64 zc_i_1 ?_
    refine sm_goto (pc := 67) (tgt := 2) dX7_makeMarks_67 (by decide) ?_
    exact hr2.use
  · skip
    refine sm_aload_n (pc := 36) (n := 0) dX7_makeMarks_36 rfl ?_
    refine gf_X7_61 (pc := 37) rfl dX7_makeMarks_37 ?_
    refine sm_iload_n (pc := 40) (n := 1) dX7_makeMarks_40 rfl ?_
    refine sm_aaloadT (pc := 41) dX7_makeMarks_41 ?_
    refine sm_iload_n (pc := 42) (n := 3) dX7_makeMarks_42 rfl ?_
    refine sm_aload_n (pc := 43) (n := 0) dX7_makeMarks_43 rfl ?_
    refine gf_X7_24 (pc := 44) rfl dX7_makeMarks_44 ?_
    refine sm_iload_n (pc := 47) (n := 3) dX7_makeMarks_47 rfl ?_
    refine sm_aaloadT (pc := 48) dX7_makeMarks_48 ?_
    refine gf_X7_98 (pc := 49) rfl dX7_makeMarks_49 ?_
    refine sm_iconst (pc := 52) dX7_makeMarks_52 zc_i_0 ?_
    refine sm_aload_n (pc := 53) (n := 2) dX7_makeMarks_53 rfl ?_
    refine sm_cS (pc := 54) (n := 3) (mc := 0) (ms := 0) (zMet_str mg_X7_placings) (cr_X7_129 (X := X_X7_makeMarks) (fr := 10) (frc := 9) (pc := 54) (mc := 0) (ms := 0) rfl (by decide) dX7_makeMarks_54) ?_
    refine sm_iastoreQ (pc := 57) dX7_makeMarks_57 ?_
    refine sm_iincR (pc := 58) (n := 3) dX7_makeMarks_58 zc_i_1 ?_
    refine sm_goto (pc := 61) (tgt := 28) dX7_makeMarks_61 (by decide) ?_
    exact hr28.use
noncomputable def lX7_makeMarksa_2 {d : Nat} (P : zP d) (r2 : zK d) : zK d := (xild 1 (xald 0 (xgfI 23 1 (xcmpS tgeR rlGe rhS rlS rhLt (xvret P) (xald 0 (xgfR 23 3 (xild 1 (xaaT (xgfR 20 2 (xcln (xcast (xast 2 (xpI 0 (xist 3 (xloop (fun r28 => (lX7_makeMarksa_28 P r2 r28)) 100000)))))))))))))))
set_option maxRecDepth 100000 in
set_option maxHeartbeats 4000000 in
theorem slX7_makeMarksa_2 {d : Nat} [zGh] (P : zP d) (r2 : zK d) (hr2 : zSimJ 1 X_X7_makeMarks 10 P 2 r2) : zSim X_X7_makeMarks 10 P 2 (lX7_makeMarksa_2 P r2) := by
  unfold lX7_makeMarksa_2
  refine sm_iload_n (pc := 2) (n := 1) dX7_makeMarks_2 rfl ?_
  refine sm_aload_n (pc := 3) (n := 0) dX7_makeMarks_3 rfl ?_
  refine gf_X7_19 (pc := 4) rfl dX7_makeMarks_4 ?_
  refine sm_icmpS_ge (pc := 7) (tgt := 70) dX7_makeMarks_7 (by decide) ?_ ?_
  · skip
    exact sm_vreturn (pc := 70) dX7_makeMarks_70 rfl
  · skip
    refine sm_aload_n (pc := 10) (n := 0) dX7_makeMarks_10 rfl ?_
    refine gf_X7_24 (pc := 11) rfl dX7_makeMarks_11 ?_
    refine sm_iload_n (pc := 14) (n := 1) dX7_makeMarks_14 rfl ?_
    refine sm_aaloadT (pc := 15) dX7_makeMarks_15 ?_
    refine gf_X7_98 (pc := 16) rfl dX7_makeMarks_16 ?_
    refine sm_clone (pc := 19) wd_221 wd_69 wd_70 wd_71 wd_72 (by decide) dX7_makeMarks_19 ?_
    refine sm_castI (pc := 22) wd_222 dX7_makeMarks_22 ?_
    refine sm_astore_n (pc := 25) (n := 2) dX7_makeMarks_25 rfl ?_
    refine sm_iconst (pc := 26) dX7_makeMarks_26 zc_i_0 ?_
    refine sm_istore_n (pc := 27) (n := 3) dX7_makeMarks_27 rfl ?_
    exact (sm_loopJ (j := 1) (fun G1 hG1 r28 hr28 => @slX7_makeMarksa_28 d G1 P r2 r28 (hr2.mv hG1 (by decide)) hr28) _).use
noncomputable def b_X7_makeMarksa {d : Nat} (P : zP d) : zK d := (xpI 0 (xist 1 (xloop (fun r2 => (lX7_makeMarksa_2 P r2)) 100000)))
set_option maxRecDepth 100000 in
set_option maxHeartbeats 4000000 in
theorem s_X7_makeMarksa {d : Nat} [zGh] (P : zP d) : zSim X_X7_makeMarks 10 P 0 (b_X7_makeMarksa P) := by
  unfold b_X7_makeMarksa
  refine sm_iconst (pc := 0) dX7_makeMarks_0 zc_i_0 ?_
  refine sm_istore_n (pc := 1) (n := 1) dX7_makeMarks_1 rfl ?_
  exact (sm_loopJ (j := 1) (fun G1 hG1 r2 hr2 => @slX7_makeMarksa_2 d G1 P r2 hr2) _).use
noncomputable def f_X7_makeMarksa {d : Nat} : List zV → zH d → zP d → Bool := zfn 4 b_X7_makeMarksa
theorem m_X7_makeMarksa {d : Nat} : zMet (d := d) X_X7_makeMarks yX7_makeMarks 10 f_X7_makeMarksa := zmet_mk (X := X_X7_makeMarks) (by decide) rfl rfl s_X7_makeMarksa

noncomputable def zk_99_zs1_67_X7_makeMarks_0 : zT 1 := @Prod.mk (zT 0) (zT 0) (23, 14, 0x800000000d0000000002800000000b800000000a800000000980000000088000000007800000000680000000050000000004000000000100000000010000000001) (3, 1, 3)
noncomputable def zk_99_zs1_67_X7_makeMarks_1 : zT 1 := @Prod.mk (zT 0) (zT 0) (20, 16, 0x8000000110800000010f0100000002800000010d800000010c800000010b800000010a000000000180000001088000000107000000000180000001058000000104000000000600000000010000000001) (0, 1, 1)
noncomputable def h0_X7_makeMarks_0 : zH 3 := (show zT 3 from ((zk_99_zs1_67_X7_makeMarks_0, ((0, 1, 0), (5, 1, 5))), (zk_99_zs1_67_X7_makeMarks_1, zO1)), (6, (11, 66)))
noncomputable def h1_X7_makeMarks_0 : zH 3 := (show zT 3 from ((zk_99_zs1_67_X7_makeMarks_0, ((0, 1, 0x100000000), (5, 1, 5))), (zk_99_zs1_67_X7_makeMarks_1, ((0, 1, 0x100000000), (0, 0, 0)))), (7, (0, 0)))
theorem ev_X7_makeMarks_0 : f_X7_makeMarksa [zR 1] h0_X7_makeMarks_0 (zrk (zU) h1_X7_makeMarks_0) = true := by decide +kernel
noncomputable def g_X7_makeMarks_0 {d : Nat} : List zV → zH d → zP d → Bool := zsmy [(0, 0), (1, 11), (2, 0), (1, 3), (4, 0), (5, 2)] [zR 1] h0_X7_makeMarks_0 (zU) h1_X7_makeMarks_0
theorem mg_X7_makeMarks_0 {d : Nat} : zMet (d := d) X_X7_makeMarks yX7_makeMarks 10 g_X7_makeMarks_0 := zMet_sm m_X7_makeMarksa ev_X7_makeMarks_0
noncomputable def zk_99_zs1_67_X7_makeMarks_2 : zT 1 := @Prod.mk (zT 0) (zT 0) (23, 14, 0x800000000d0000000002800000000b800000000a800000000980000000088000000007800000000680000000050000000005000000000200000000020000000002) (3, 2, 0x40000000003)
noncomputable def zk_99_zs1_67_X7_makeMarks_3 : zT 2 := @Prod.mk (zT 1) (zT 1) ((5, 2, 0x70000000006), (20, 16, 0x8000000150800000014f0100000002800000014d800000014c800000014b800000014a000000000180000001488000000147000000000180000001458000000144000000000800000000010000000002)) ((20, 16, 0x8000000190800000018f0100000003800000018d800000018c800000018b800000018a000000000280000001888000000187000000000180000001858000000184000000000900000000020000000002), (0, 1, 2))
noncomputable def h0_X7_makeMarks_1 : zH 4 := (show zT 4 from (((zk_99_zs1_67_X7_makeMarks_2, ((0, 2, 0), (0, 2, 0))), zk_99_zs1_67_X7_makeMarks_3), ((((0, 2, 0x10000000001), (0, 0, 0)), zO1), zO2)), (9, (11, 66)))
noncomputable def h1_X7_makeMarks_1 : zH 4 := (show zT 4 from (((zk_99_zs1_67_X7_makeMarks_2, ((0, 2, 0x1000000000100000000), (0, 2, 0x1000000000100000000))), zk_99_zs1_67_X7_makeMarks_3), ((((0, 2, 0x10000000001), (0, 1, 0x100000000)), ((0, 2, 0x1000000000100000000), (0, 0, 0))), zO2)), (11, (0, 0)))
theorem ev_X7_makeMarks_1 : f_X7_makeMarksa [zR 1] h0_X7_makeMarks_1 (zrk (zU) h1_X7_makeMarks_1) = true := by decide +kernel
noncomputable def g_X7_makeMarks_1 {d : Nat} : List zV → zH d → zP d → Bool := zsmy [(0, 0), (1, 11), (2, 0), (2, 1), (1, 3), (5, 0), (5, 1), (6, 2), (7, 2)] [zR 1] h0_X7_makeMarks_1 (zU) h1_X7_makeMarks_1
theorem mg_X7_makeMarks_1 {d : Nat} : zMet (d := d) X_X7_makeMarks yX7_makeMarks 10 g_X7_makeMarks_1 := zMet_sm m_X7_makeMarksa ev_X7_makeMarks_1
noncomputable def zk_99_zs1_67_X7_makeMarks_4 : zT 1 := @Prod.mk (zT 0) (zT 0) (23, 14, 0x800000000d0000000002800000000b800000000a800000000980000000088000000007800000000680000000050000000006000000000600000000030000000003) (3, 3, 0x500000000040000000003)
noncomputable def zk_99_zs1_67_X7_makeMarks_5 : zT 1 := @Prod.mk (zT 0) (zT 0) (20, 16, 0x8000000190800000018f0100000002800000018d800000018c800000018b800000018a000000000180000001888000000187000000000180000001858000000184000000000a00000000010000000003) (20, 16, 0x80000001d080000001cf010000000380000001cd80000001cc80000001cb80000001ca000000000280000001c880000001c7000000000280000001c580000001c4000000000b00000000020000000003)
noncomputable def zk_99_zs1_67_X7_makeMarks_6 : zT 2 := @Prod.mk (zT 1) (zT 1) ((20, 16, 0x8000000210800000020f0100000007800000020d800000020c800000020b800000020a000000000680000002088000000207000000000180000002058000000204000000000c00000000030000000003), (0, 1, 3)) ((0, 2, 0x10000000002), (0, 3, 0x100000000010000000001))
noncomputable def h0_X7_makeMarks_2 : zH 4 := (show zT 4 from (((zk_99_zs1_67_X7_makeMarks_4, ((0, 3, 0), (0, 3, 0))), (((0, 3, 0), (5, 3, 0x900000000080000000007)), zk_99_zs1_67_X7_makeMarks_5)), (zk_99_zs1_67_X7_makeMarks_6, zO2)), (12, (11, 66)))
noncomputable def h1_X7_makeMarks_2 : zH 4 := (show zT 4 from (((zk_99_zs1_67_X7_makeMarks_4, ((0, 3, 0x10000000001000000000100000000), (0, 3, 0x10000000001000000000100000000))), (((0, 3, 0x10000000001000000000100000000), (5, 3, 0x900000000080000000007)), zk_99_zs1_67_X7_makeMarks_5)), (zk_99_zs1_67_X7_makeMarks_6, (((0, 1, 0x100000000), (0, 2, 0x1000000000100000000)), ((0, 3, 0x10000000001000000000100000000), (0, 0, 0))))), (15, (0, 0)))
theorem ev_X7_makeMarks_2 : f_X7_makeMarksa [zR 1] h0_X7_makeMarks_2 (zrk (zU) h1_X7_makeMarks_2) = true := by decide +kernel
noncomputable def g_X7_makeMarks_2 {d : Nat} : List zV → zH d → zP d → Bool := zsmy [(0, 0), (1, 11), (2, 0), (2, 1), (2, 2), (1, 3), (6, 0), (6, 1), (6, 2), (7, 2), (8, 2), (9, 2)] [zR 1] h0_X7_makeMarks_2 (zU) h1_X7_makeMarks_2
theorem mg_X7_makeMarks_2 {d : Nat} : zMet (d := d) X_X7_makeMarks yX7_makeMarks 10 g_X7_makeMarks_2 := zMet_sm m_X7_makeMarksa ev_X7_makeMarks_2
noncomputable def zk_99_zs1_67_X7_makeMarks_7 : zT 1 := @Prod.mk (zT 0) (zT 0) (23, 14, 0x800000000d0000000002800000000b800000000a800000000980000000088000000007800000000680000000050000000008000000001800000000050000000004) (3, 5, 0x70000000006000000000500000000040000000003)
noncomputable def zk_99_zs1_67_X7_makeMarks_8 : zT 3 := @Prod.mk (zT 2) (zT 2) (((20, 16, 0x8000000210800000020f0100000002800000020d800000020c800000020b800000020a000000000180000002088000000207000000000180000002058000000204000000000e00000000010000000004), (20, 16, 0x8000000250800000024f0100000003800000024d800000024c800000024b800000024a000000000280000002488000000247000000000380000002458000000244000000000f00000000020000000004)), ((20, 16, 0x8000000290800000028f0100000005800000028d800000028c800000028b800000028a000000000480000002888000000287000000000280000002858000000284000000001000000000020000000004), (20, 16, 0x80000002d080000002cf010000000780000002cd80000002cc80000002cb80000002ca000000000680000002c880000002c7000000000380000002c580000002c4000000001100000000030000000004))) (((20, 16, 0x8000000310800000030f0100000019800000030d800000030c800000030b800000030a000000001880000003088000000307000000000180000003058000000304000000001200000000040000000004), (0, 1, 4)), ((0, 2, 0x10000000003), (0, 2, 0x20000000002)))
noncomputable def zk_99_zs1_67_X7_makeMarks_9 : zT 1 := @Prod.mk (zT 0) (zT 0) (0, 3, 0x100000000010000000002) (0, 4, 0x1000000000100000000010000000001)
noncomputable def h0_X7_makeMarks_3 : zH 5 := (show zT 5 from ((((zk_99_zs1_67_X7_makeMarks_7, ((0, 5, 0), (0, 5, 0))), (((0, 5, 0), (0, 5, 0)), ((0, 5, 0), (5, 5, 0xd000000000c000000000b000000000a0000000009)))), zk_99_zs1_67_X7_makeMarks_8), (((zk_99_zs1_67_X7_makeMarks_9, zO1), zO2), zO3)), (18, (11, 66)))
noncomputable def zk_99_zs1_67_X7_makeMarks_10 : zT 1 := @Prod.mk (zT 0) (zT 0) (0, 5, 0x1000000000100000000010000000001000000000100000000) (0, 5, 0x1000000000100000000010000000001000000000100000000)
noncomputable def zk_99_zs1_67_X7_makeMarks_11 : zT 1 := @Prod.mk (zT 0) (zT 0) (0, 2, 0x1000000000100000000) (0, 3, 0x10000000001000000000100000000)
noncomputable def h1_X7_makeMarks_3 : zH 5 := (show zT 5 from ((((zk_99_zs1_67_X7_makeMarks_7, zk_99_zs1_67_X7_makeMarks_10), (zk_99_zs1_67_X7_makeMarks_10, ((0, 5, 0x1000000000100000000010000000001000000000100000000), (5, 5, 0xd000000000c000000000b000000000a0000000009)))), zk_99_zs1_67_X7_makeMarks_8), (((zk_99_zs1_67_X7_makeMarks_9, ((0, 1, 0x100000000), (0, 2, 0x1000000000100000000))), (zk_99_zs1_67_X7_makeMarks_11, ((0, 4, 0x100000000010000000001000000000100000000), (0, 0, 0)))), zO3)), (23, (0, 0)))
theorem ev_X7_makeMarks_3 : f_X7_makeMarksa [zR 1] h0_X7_makeMarks_3 (zrk (zU) h1_X7_makeMarks_3) = true := by decide +kernel
noncomputable def g_X7_makeMarks_3 {d : Nat} : List zV → zH d → zP d → Bool := zsmy [(0, 0), (1, 11), (2, 0), (2, 1), (2, 2), (2, 3), (2, 4), (1, 3), (8, 0), (8, 1), (8, 2), (8, 3), (8, 4), (9, 2), (10, 2), (11, 2), (12, 2), (13, 2)] [zR 1] h0_X7_makeMarks_3 (zU) h1_X7_makeMarks_3
theorem mg_X7_makeMarks_3 {d : Nat} : zMet (d := d) X_X7_makeMarks yX7_makeMarks 10 g_X7_makeMarks_3 := zMet_sm m_X7_makeMarksa ev_X7_makeMarks_3
noncomputable def zk_99_zs1_67_X7_makeMarks_12 : zT 1 := @Prod.mk (zT 0) (zT 0) (23, 14, 0x800000000d0000000002800000000b800000000a80000000098000000008800000000780000000068000000005000000000a000000007800000000070000000005) (3, 7, 0x9000000000800000000070000000006000000000500000000040000000003)
noncomputable def zk_99_zs1_67_X7_makeMarks_13 : zC := (5, 7, 0x110000000010000000000f000000000e000000000d000000000c000000000b)
noncomputable def zk_99_zs1_67_X7_makeMarks_14 : zT 1 := @Prod.mk (zT 0) (zT 0) (20, 16, 0x8000000290800000028f0100000002800000028d800000028c800000028b800000028a000000000180000002888000000287000000000180000002858000000284000000001200000000010000000005) (20, 16, 0x80000002d080000002cf010000000380000002cd80000002cc80000002cb80000002ca000000000280000002c880000002c7000000000480000002c580000002c4000000001300000000020000000005)
noncomputable def zk_99_zs1_67_X7_makeMarks_15 : zT 2 := @Prod.mk (zT 1) (zT 1) ((20, 16, 0x8000000310800000030f0100000005800000030d800000030c800000030b800000030a000000000480000003088000000307000000000580000003058000000304000000001400000000020000000005), (20, 16, 0x8000000350800000034f0100000007800000034d800000034c800000034b800000034a000000000680000003488000000347000000000680000003458000000344000000001500000000030000000005)) ((20, 16, 0x8000000390800000038f010000000d800000038d800000038c800000038b800000038a000000000c80000003888000000387000000000580000003858000000384000000001600000000030000000005), (20, 16, 0x80000003d080000003cf010000001980000003cd80000003cc80000003cb80000003ca000000001880000003c880000003c7000000000480000003c580000003c4000000001700000000040000000005))
noncomputable def zk_99_zs1_67_X7_makeMarks_16 : zT 3 := @Prod.mk (zT 2) (zT 2) (((20, 16, 0x8000000410800000040f0100000079800000040d800000040c800000040b800000040a000000007880000004088000000407000000000180000004058000000404000000001800000000050000000005), (0, 1, 5)), ((0, 2, 0x10000000004), (0, 2, 0x20000000003))) (((0, 3, 0x100000000010000000003), (0, 3, 0x100000000020000000002)), ((0, 4, 0x1000000000100000000010000000002), (0, 5, 0x10000000001000000000100000000010000000001)))
noncomputable def h0_X7_makeMarks_4 : zH 5 := (show zT 5 from ((((zk_99_zs1_67_X7_makeMarks_12, ((0, 7, 0), (0, 7, 0))), (((0, 7, 0), (0, 7, 0)), ((0, 7, 0), (0, 7, 0)))), ((((0, 7, 0), zk_99_zs1_67_X7_makeMarks_13), zk_99_zs1_67_X7_makeMarks_14), zk_99_zs1_67_X7_makeMarks_15)), (zk_99_zs1_67_X7_makeMarks_16, zO3)), (24, (11, 66)))
noncomputable def zk_99_zs1_67_X7_makeMarks_17 : zC := (0, 7, 0x100000000010000000001000000000100000000010000000001000000000100000000)
noncomputable def zk_99_zs1_67_X7_makeMarks_18 : zT 1 := @Prod.mk (zT 0) (zT 0) zk_99_zs1_67_X7_makeMarks_17 zk_99_zs1_67_X7_makeMarks_17
noncomputable def zk_99_zs1_67_X7_makeMarks_19 : zT 2 := @Prod.mk (zT 1) (zT 1) ((0, 1, 0x100000000), (0, 2, 0x1000000000100000000)) zk_99_zs1_67_X7_makeMarks_11
noncomputable def h1_X7_makeMarks_4 : zH 5 := (show zT 5 from ((((zk_99_zs1_67_X7_makeMarks_12, zk_99_zs1_67_X7_makeMarks_18), (zk_99_zs1_67_X7_makeMarks_18, zk_99_zs1_67_X7_makeMarks_18)), (((zk_99_zs1_67_X7_makeMarks_17, zk_99_zs1_67_X7_makeMarks_13), zk_99_zs1_67_X7_makeMarks_14), zk_99_zs1_67_X7_makeMarks_15)), (zk_99_zs1_67_X7_makeMarks_16, (zk_99_zs1_67_X7_makeMarks_19, (((0, 3, 0x10000000001000000000100000000), (0, 4, 0x100000000010000000001000000000100000000)), ((0, 5, 0x1000000000100000000010000000001000000000100000000), (0, 0, 0)))))), (31, (0, 0)))
theorem ev_X7_makeMarks_4 : f_X7_makeMarksa [zR 1] h0_X7_makeMarks_4 (zrk (zU) h1_X7_makeMarks_4) = true := by decide +kernel
noncomputable def g_X7_makeMarks_4 {d : Nat} : List zV → zH d → zP d → Bool := zsmy [(0, 0), (1, 11), (2, 0), (2, 1), (2, 2), (2, 3), (2, 4), (2, 5), (2, 6), (1, 3), (10, 0), (10, 1), (10, 2), (10, 3), (10, 4), (10, 5), (10, 6), (11, 2), (12, 2), (13, 2), (14, 2), (15, 2), (16, 2), (17, 2)] [zR 1] h0_X7_makeMarks_4 (zU) h1_X7_makeMarks_4
theorem mg_X7_makeMarks_4 {d : Nat} : zMet (d := d) X_X7_makeMarks yX7_makeMarks 10 g_X7_makeMarks_4 := zMet_sm m_X7_makeMarksa ev_X7_makeMarks_4
noncomputable def zk_99_zs1_67_X7_makeMarks_20 : zT 1 := @Prod.mk (zT 0) (zT 0) (23, 14, 0x800000000d0000000002800000000b800000000a80000000098000000008800000000780000000068000000005000000000e00000002d0000000000b0000000006) (3, 11, 0xd000000000c000000000b000000000a0000000009000000000800000000070000000006000000000500000000040000000003)
noncomputable def zk_99_zs1_67_X7_makeMarks_21 : zC := (5, 11, 0x19000000001800000000170000000016000000001500000000140000000013000000001200000000110000000010000000000f)
noncomputable def zk_99_zs1_67_X7_makeMarks_22 : zT 1 := @Prod.mk (zT 0) (zT 0) (20, 16, 0x8000000390800000038f0100000002800000038d800000038c800000038b800000038a000000000180000003888000000387000000000180000003858000000384000000001a00000000010000000006) (20, 16, 0x80000003d080000003cf010000000380000003cd80000003cc80000003cb80000003ca000000000280000003c880000003c7000000000580000003c580000003c4000000001b00000000020000000006)
noncomputable def zk_99_zs1_67_X7_makeMarks_23 : zT 4 := @Prod.mk (zT 3) (zT 3) ((((20, 16, 0x8000000410800000040f0100000005800000040d800000040c800000040b800000040a000000000480000004088000000407000000000980000004058000000404000000001c00000000020000000006), (20, 16, 0x8000000450800000044f0100000007800000044d800000044c800000044b800000044a000000000680000004488000000447000000000a80000004458000000444000000001d00000000030000000006)), ((20, 16, 0x8000000490800000048f0100000009800000048d800000048c800000048b800000048a000000000880000004888000000487000000000580000004858000000484000000001e00000000020000000006), (20, 16, 0x80000004d080000004cf010000000d80000004cd80000004cc80000004cb80000004ca000000000c80000004c880000004c7000000001080000004c580000004c4000000001f00000000030000000006))), (((20, 16, 0x8000000510800000050f0100000019800000050d800000050c800000050b800000050a000000001880000005088000000507000000000a80000005058000000504000000002000000000040000000006), (20, 16, 0x8000000550800000054f0100000025800000054d800000054c800000054b800000054a000000002480000005488000000547000000000580000005458000000544000000002100000000030000000006)), ((20, 16, 0x8000000590800000058f0100000031800000058d800000058c800000058b800000058a000000003080000005888000000587000000000980000005858000000584000000002200000000040000000006), (20, 16, 0x80000005d080000005cf010000007980000005cd80000005cc80000005cb80000005ca000000007880000005c880000005c7000000000580000005c580000005c4000000002300000000050000000006)))) ((((20, 16, 0x8000000610800000060f01000002d1800000060d800000060c800000060b800000060a00000002d080000006088000000607000000000180000006058000000604000000002400000000060000000006), (0, 1, 6)), ((0, 2, 0x10000000005), (0, 2, 0x20000000004))), (((0, 3, 0x100000000010000000004), (0, 2, 0x30000000003)), ((0, 3, 0x100000000020000000003), (0, 4, 0x1000000000100000000010000000003))))
noncomputable def zk_99_zs1_67_X7_makeMarks_24 : zT 2 := @Prod.mk (zT 1) (zT 1) ((0, 3, 0x200000000020000000002), (0, 4, 0x1000000000100000000020000000002)) ((0, 5, 0x10000000001000000000100000000010000000002), (0, 6, 0x100000000010000000001000000000100000000010000000001))
noncomputable def h0_X7_makeMarks_5 : zH 6 := (show zT 6 from (((((zk_99_zs1_67_X7_makeMarks_20, ((0, 11, 0), (0, 11, 0))), (((0, 11, 0), (0, 11, 0)), ((0, 11, 0), (0, 11, 0)))), ((((0, 11, 0), (0, 11, 0)), ((0, 11, 0), (0, 11, 0))), (((0, 11, 0), zk_99_zs1_67_X7_makeMarks_21), zk_99_zs1_67_X7_makeMarks_22))), zk_99_zs1_67_X7_makeMarks_23), (((zk_99_zs1_67_X7_makeMarks_24, zO2), zO3), zO4)), (36, (11, 66)))
noncomputable def zk_99_zs1_67_X7_makeMarks_25 : zT 1 := @Prod.mk (zT 0) (zT 0) (0, 11, zun 40 11 4294967296) (0, 11, zun 40 11 4294967296)
noncomputable def zk_99_zs1_67_X7_makeMarks_26 : zT 2 := @Prod.mk (zT 1) (zT 1) zk_99_zs1_67_X7_makeMarks_25 zk_99_zs1_67_X7_makeMarks_25
noncomputable def h1_X7_makeMarks_5 : zH 6 := (show zT 6 from (((((zk_99_zs1_67_X7_makeMarks_20, zk_99_zs1_67_X7_makeMarks_25), zk_99_zs1_67_X7_makeMarks_26), (zk_99_zs1_67_X7_makeMarks_26, (((0, 11, zun 40 11 4294967296), zk_99_zs1_67_X7_makeMarks_21), zk_99_zs1_67_X7_makeMarks_22))), zk_99_zs1_67_X7_makeMarks_23), (((zk_99_zs1_67_X7_makeMarks_24, zk_99_zs1_67_X7_makeMarks_19), ((zk_99_zs1_67_X7_makeMarks_11, ((0, 4, 0x100000000010000000001000000000100000000), (0, 3, 0x10000000001000000000100000000))), (((0, 4, 0x100000000010000000001000000000100000000), (0, 5, 0x1000000000100000000010000000001000000000100000000)), ((0, 6, 0x10000000001000000000100000000010000000001000000000100000000), (0, 0, 0))))), zO4)), (47, (0, 0)))
theorem ev_X7_makeMarks_5 : f_X7_makeMarksa [zR 1] h0_X7_makeMarks_5 (zrk (zU) h1_X7_makeMarks_5) = true := by decide +kernel
noncomputable def g_X7_makeMarks_5 {d : Nat} : List zV → zH d → zP d → Bool := zsmy [(0, 0), (1, 11), (2, 0), (2, 1), (2, 2), (2, 3), (2, 4), (2, 5), (2, 6), (2, 7), (2, 8), (2, 9), (2, 10), (1, 3), (14, 0), (14, 1), (14, 2), (14, 3), (14, 4), (14, 5), (14, 6), (14, 7), (14, 8), (14, 9), (14, 10), (15, 2), (16, 2), (17, 2), (18, 2), (19, 2), (20, 2), (21, 2), (22, 2), (23, 2), (24, 2), (25, 2)] [zR 1] h0_X7_makeMarks_5 (zU) h1_X7_makeMarks_5
theorem mg_X7_makeMarks_5 {d : Nat} : zMet (d := d) X_X7_makeMarks yX7_makeMarks 10 g_X7_makeMarks_5 := zMet_sm m_X7_makeMarksa ev_X7_makeMarks_5
noncomputable def g_X7_makeMarks {d : Nat} : List zV → zH d → zP d → Bool := (zor2 g_X7_makeMarks_0 (zor2 g_X7_makeMarks_1 (zor2 g_X7_makeMarks_2 (zor2 g_X7_makeMarks_3 (zor2 g_X7_makeMarks_4 (zor2 g_X7_makeMarks_5 (fun _ _ _ => false)))))))
theorem mg_X7_makeMarks {d : Nat} : zMet (d := d) X_X7_makeMarks yX7_makeMarks 10 g_X7_makeMarks := (zMet_or mg_X7_makeMarks_0 (zMet_or mg_X7_makeMarks_1 (zMet_or mg_X7_makeMarks_2 (zMet_or mg_X7_makeMarks_3 (zMet_or mg_X7_makeMarks_4 (zMet_or mg_X7_makeMarks_5 zfalse))))))
end
section
/-! the class by summaries, by program -/
noncomputable def bX7_timesIna_57 {d : Nat} (P : zP d) : zK d := (xiret P)
set_option maxRecDepth 100000 in
set_option maxHeartbeats 4000000 in
theorem sbX7_timesIna_57 {d : Nat} [zGh] (P : zP d) : zSim X_X7_timesIn 1 P 57 (bX7_timesIna_57 P) := by
  unfold bX7_timesIna_57
  exact sm_ireturn (pc := 57) dX7_timesIn_57 rfl
noncomputable def lX7_timesIna_5 {d : Nat} (P : zP d) (r5 : zK d) : zK d := (xild 4 (xald 0 (xgfI 23 1 (xcmpS tgeR rlGe rhS rlS rhLt (xald 0 (xgfI 23 2 (xjoin (bX7_timesIna_57 P) (fun j57 => (xif0S tleR rlS rhLe rlGt rhS (xpI 0 j57) (xild 3 (xald 0 (xgfI 23 2 (xbinN zdivR j57))))))))) (xild 3 (xald 0 (xgfR 23 5 (xild 4 (xalQ 0 (xald 1 (xild 4 (xalQ 0 (xbin zmulR (xald 2 (xild 4 (xalQ 0 (xbin zmulR (xbin zaddR (xist 3 (xincR 4 1 r5))))))))))))))))))))
set_option maxRecDepth 100000 in
set_option maxHeartbeats 4000000 in
theorem slX7_timesIna_5 {d : Nat} [zGh] (P : zP d) (r5 : zK d) (hr5 : zSimJ 2 X_X7_timesIn 1 P 5 r5) : zSim X_X7_timesIn 1 P 5 (lX7_timesIna_5 P r5) := by
  unfold lX7_timesIna_5
  refine sm_iload (pc := 5) (n := 4) dX7_timesIn_5 ?_
  refine sm_aload_n (pc := 7) (n := 0) dX7_timesIn_7 rfl ?_
  refine gf_X7_19 (pc := 8) rfl dX7_timesIn_8 ?_
  refine sm_icmpS_ge (pc := 11) (tgt := 40) dX7_timesIn_11 (by decide) ?_ ?_
  · skip
    refine sm_aload_n (pc := 40) (n := 0) dX7_timesIn_40 rfl ?_
    refine gf_X7_35 (pc := 41) rfl dX7_timesIn_41 ?_
    refine sm_joinJ (pc := 44) (pc' := 57) (j := 2) (fun G0 hG0 => @sbX7_timesIna_57 d G0 P) (fun j57 hj57 => ?_)
    refine sm_ifS_le (pc := 44) (tgt := 56) dX7_timesIn_44 (by decide) ?_ ?_
    · skip
      refine sm_iconst (pc := 56) dX7_timesIn_56 zc_i_0 ?_
      exact hj57.use
    · skip
      refine sm_iload_n (pc := 47) (n := 3) dX7_timesIn_47 rfl ?_
      refine sm_aload_n (pc := 48) (n := 0) dX7_timesIn_48 rfl ?_
      refine gf_X7_35 (pc := 49) rfl dX7_timesIn_49 ?_
      refine sm_idivR (pc := 52) dX7_timesIn_52 ?_
      refine sm_goto (pc := 53) (tgt := 57) dX7_timesIn_53 (by decide) ?_
      exact hj57.use
  · skip
    refine sm_iload_n (pc := 14) (n := 3) dX7_timesIn_14 rfl ?_
    refine sm_aload_n (pc := 15) (n := 0) dX7_timesIn_15 rfl ?_
    refine gf_X7_41 (pc := 16) rfl dX7_timesIn_16 ?_
    refine sm_iload (pc := 19) (n := 4) dX7_timesIn_19 ?_
    refine sm_ialoadQ (pc := 21) dX7_timesIn_21 ?_
    refine sm_aload_n (pc := 22) (n := 1) dX7_timesIn_22 rfl ?_
    refine sm_iload (pc := 23) (n := 4) dX7_timesIn_23 ?_
    refine sm_ialoadQ (pc := 25) dX7_timesIn_25 ?_
    refine sm_imulR (pc := 26) dX7_timesIn_26 ?_
    refine sm_aload_n (pc := 27) (n := 2) dX7_timesIn_27 rfl ?_
    refine sm_iload (pc := 28) (n := 4) dX7_timesIn_28 ?_
    refine sm_ialoadQ (pc := 30) dX7_timesIn_30 ?_
    refine sm_imulR (pc := 31) dX7_timesIn_31 ?_
    refine sm_iaddR (pc := 32) dX7_timesIn_32 ?_
    refine sm_istore_n (pc := 33) (n := 3) dX7_timesIn_33 rfl ?_
    refine sm_iincR (pc := 34) (n := 4) dX7_timesIn_34 zc_i_1 ?_
    refine sm_goto (pc := 37) (tgt := 5) dX7_timesIn_37 (by decide) ?_
    exact hr5.use
noncomputable def b_X7_timesIna {d : Nat} (P : zP d) : zK d := (xpI 0 (xist 3 (xpI 0 (xist 4 (xlp 4 1 (hsF 0 [] 1) (wkL 3 4294967296 wkE) (fun r5 => (lX7_timesIna_5 P r5)))))))
set_option maxRecDepth 100000 in
set_option maxHeartbeats 4000000 in
theorem s_X7_timesIna {d : Nat} [zGh] (P : zP d) : zSim X_X7_timesIn 1 P 0 (b_X7_timesIna P) := by
  unfold b_X7_timesIna
  refine sm_iconst (pc := 0) dX7_timesIn_0 zc_i_0 ?_
  refine sm_istore_n (pc := 1) (n := 3) dX7_timesIn_1 rfl ?_
  refine sm_iconst (pc := 2) dX7_timesIn_2 zc_i_0 ?_
  refine sm_istore (pc := 3) (n := 4) dX7_timesIn_3 ?_
  exact sm_lp (i := 4) (j := 1) (by decide) (by decide) hsF_ok (wkL_ok wkE_ok) (fun G1 hG1 r5 hr5 => @slX7_timesIna_5 d G1 P r5 hr5)
noncomputable def f_X7_timesIna {d : Nat} : List zV → zH d → zP d → Bool := zfn 5 b_X7_timesIna
theorem m_X7_timesIna {d : Nat} : zMet (d := d) X_X7_timesIn yX7_timesIn 1 f_X7_timesIna := zmet_mk (X := X_X7_timesIn) (by decide) rfl rfl s_X7_timesIna
end
section
/-! the class by summaries, by program -/
noncomputable def lX7_makeCharactersa_58 {d : Nat} (P : zP d) (r33 : zK d) (r58 : zK d) : zK d := (xild 4 (xald 0 (xgfI 23 1 (xcmpS tgeR rlGe rhS rlS rhLt (xincR 2 1 r33) (xald 0 (xgfR 23 12 (xild 1 (xaaT (xild 4 (xdup2 (xalQ 0 (xild 3 (xald 0 (xgfR 23 12 (xild 2 (xaaT (xild 4 (xalQ 0 (xbin zmulR (xbin zsubR (xasQ 0 (fun v => v) (xincR 4 1 r58))))))))))))))))))))))
set_option maxRecDepth 100000 in
set_option maxHeartbeats 4000000 in
theorem slX7_makeCharactersa_58 {d : Nat} [zGh] (P : zP d) (r33 : zK d) (r58 : zK d) (hr33 : zSimJ 1 X_X7_makeCharacters 2 P 33 r33) (hr58 : zSimJ 1 X_X7_makeCharacters 2 P 58 r58) : zSim X_X7_makeCharacters 2 P 58 (lX7_makeCharactersa_58 P r33 r58) := by
  unfold lX7_makeCharactersa_58
  refine sm_iload (pc := 58) (n := 4) dX7_makeCharacters_58 ?_
  refine sm_aload_n (pc := 60) (n := 0) dX7_makeCharacters_60 rfl ?_
  refine gf_X7_19 (pc := 61) rfl dX7_makeCharacters_61 ?_
  refine sm_icmpS_ge (pc := 64) (tgt := 96) dX7_makeCharacters_64 (by decide) ?_ ?_
  · skip
    refine sm_iincR (pc := 96) (n := 2) dX7_makeCharacters_96 zc_i_1 ?_
    refine sm_goto (pc := 99) (tgt := 33) dX7_makeCharacters_99 (by decide) ?_
    exact hr33.use
  · skip
    refine sm_aload_n (pc := 67) (n := 0) dX7_makeCharacters_67 rfl ?_
    refine gf_X7_64 (pc := 68) rfl dX7_makeCharacters_68 ?_
    refine sm_iload_n (pc := 71) (n := 1) dX7_makeCharacters_71 rfl ?_
    refine sm_aaloadT (pc := 72) dX7_makeCharacters_72 ?_
    refine sm_iload (pc := 73) (n := 4) dX7_makeCharacters_73 ?_
    refine sm_dup2 (pc := 75) dX7_makeCharacters_75 ?_
    refine sm_ialoadQ (pc := 76) dX7_makeCharacters_76 ?_
    refine sm_iload_n (pc := 77) (n := 3) dX7_makeCharacters_77 rfl ?_
    refine sm_aload_n (pc := 78) (n := 0) dX7_makeCharacters_78 rfl ?_
    refine gf_X7_64 (pc := 79) rfl dX7_makeCharacters_79 ?_
    refine sm_iload_n (pc := 82) (n := 2) dX7_makeCharacters_82 rfl ?_
    refine sm_aaloadT (pc := 83) dX7_makeCharacters_83 ?_
    refine sm_iload (pc := 84) (n := 4) dX7_makeCharacters_84 ?_
    refine sm_ialoadQ (pc := 86) dX7_makeCharacters_86 ?_
    refine sm_imulR (pc := 87) dX7_makeCharacters_87 ?_
    refine sm_isubR (pc := 88) dX7_makeCharacters_88 ?_
    refine sm_iastoreQ (pc := 89) dX7_makeCharacters_89 ?_
    refine sm_iincR (pc := 90) (n := 4) dX7_makeCharacters_90 zc_i_1 ?_
    refine sm_goto (pc := 93) (tgt := 58) dX7_makeCharacters_93 (by decide) ?_
    exact hr58.use
noncomputable def lX7_makeCharactersa_33 {d : Nat} (P : zP d) (r2 : zK d) (r33 : zK d) : zK d := (xild 2 (xild 1 (xcmpS tgeR rlGe rhS rlS rhLt (xincR 1 1 r2) (xald 0 (xald 0 (xgfR 23 11 (xild 1 (xaaT (xald 0 (xgfR 23 12 (xild 2 (xaaT (xcV 23 3 0 0 (zstr f_X7_timesIna) (xist 3 (xpI 0 (xist 4 (xloop (fun r58 => (lX7_makeCharactersa_58 P r33 r58)) 100000)))))))))))))))))
set_option maxRecDepth 100000 in
set_option maxHeartbeats 4000000 in
theorem slX7_makeCharactersa_33 {d : Nat} [zGh] (P : zP d) (r2 : zK d) (r33 : zK d) (hr2 : zSimJ 1 X_X7_makeCharacters 2 P 2 r2) (hr33 : zSimJ 1 X_X7_makeCharacters 2 P 33 r33) : zSim X_X7_makeCharacters 2 P 33 (lX7_makeCharactersa_33 P r2 r33) := by
  unfold lX7_makeCharactersa_33
  refine sm_iload_n (pc := 33) (n := 2) dX7_makeCharacters_33 rfl ?_
  refine sm_iload_n (pc := 34) (n := 1) dX7_makeCharacters_34 rfl ?_
  refine sm_icmpS_ge (pc := 35) (tgt := 102) dX7_makeCharacters_35 (by decide) ?_ ?_
  · skip
    refine sm_iincR (pc := 102) (n := 1) dX7_makeCharacters_102 zc_i_1 ?_
    refine sm_goto (pc := 105) (tgt := 2) dX7_makeCharacters_105 (by decide) ?_
    exact hr2.use
  · skip
    refine sm_aload_n (pc := 38) (n := 0) dX7_makeCharacters_38 rfl ?_
    refine sm_aload_n (pc := 39) (n := 0) dX7_makeCharacters_39 rfl ?_
    refine gf_X7_61 (pc := 40) rfl dX7_makeCharacters_40 ?_
    refine sm_iload_n (pc := 43) (n := 1) dX7_makeCharacters_43 rfl ?_
    refine sm_aaloadT (pc := 44) dX7_makeCharacters_44 ?_
    refine sm_aload_n (pc := 45) (n := 0) dX7_makeCharacters_45 rfl ?_
    refine gf_X7_64 (pc := 46) rfl dX7_makeCharacters_46 ?_
    refine sm_iload_n (pc := 49) (n := 2) dX7_makeCharacters_49 rfl ?_
    refine sm_aaloadT (pc := 50) dX7_makeCharacters_50 ?_
    refine sm_cV (pc := 51) (ci := 7) (n := 3) (mc := 0) (ms := 0) rfl (zMet_str m_X7_timesIna) (cr_X7_138 (X := X_X7_makeCharacters) (fr := 2) (frc := 1) (pc := 51) (mc := 0) (ms := 0) rfl (by decide) dX7_makeCharacters_51) ?_
    refine sm_istore_n (pc := 54) (n := 3) dX7_makeCharacters_54 rfl ?_
    refine sm_iconst (pc := 55) dX7_makeCharacters_55 zc_i_0 ?_
    refine sm_istore (pc := 56) (n := 4) dX7_makeCharacters_56 ?_
    exact (sm_loopJ (j := 1) (fun G1 hG1 r58 hr58 => @slX7_makeCharactersa_58 d G1 P r33 r58 (hr33.mv hG1 (by decide)) hr58) _).use
noncomputable def lX7_makeCharactersa_2 {d : Nat} (P : zP d) (r2 : zK d) : zK d := (xild 1 (xald 0 (xgfI 23 1 (xcmpS tgeR rlGe rhS rlS rhLt (xvret P) (xald 0 (xgfR 23 11 (xild 1 (xaaT (xpI 0 (xald 0 (xgfR 23 12 (xild 1 (xaaT (xpI 0 (xald 0 (xgfI 23 1 (xcpQ (xpI 0 (xist 2 (xloop (fun r33 => (lX7_makeCharactersa_33 P r2 r33)) 100000))))))))))))))))))))
set_option maxRecDepth 100000 in
set_option maxHeartbeats 4000000 in
theorem slX7_makeCharactersa_2 {d : Nat} [zGh] (P : zP d) (r2 : zK d) (hr2 : zSimJ 1 X_X7_makeCharacters 2 P 2 r2) : zSim X_X7_makeCharacters 2 P 2 (lX7_makeCharactersa_2 P r2) := by
  unfold lX7_makeCharactersa_2
  refine sm_iload_n (pc := 2) (n := 1) dX7_makeCharacters_2 rfl ?_
  refine sm_aload_n (pc := 3) (n := 0) dX7_makeCharacters_3 rfl ?_
  refine gf_X7_19 (pc := 4) rfl dX7_makeCharacters_4 ?_
  refine sm_icmpS_ge (pc := 7) (tgt := 108) dX7_makeCharacters_7 (by decide) ?_ ?_
  · skip
    exact sm_vreturn (pc := 108) dX7_makeCharacters_108 rfl
  · skip
    refine sm_aload_n (pc := 10) (n := 0) dX7_makeCharacters_10 rfl ?_
    refine gf_X7_61 (pc := 11) rfl dX7_makeCharacters_11 ?_
    refine sm_iload_n (pc := 14) (n := 1) dX7_makeCharacters_14 rfl ?_
    refine sm_aaloadT (pc := 15) dX7_makeCharacters_15 ?_
    refine sm_iconst (pc := 16) dX7_makeCharacters_16 zc_i_0 ?_
    refine sm_aload_n (pc := 17) (n := 0) dX7_makeCharacters_17 rfl ?_
    refine gf_X7_64 (pc := 18) rfl dX7_makeCharacters_18 ?_
    refine sm_iload_n (pc := 21) (n := 1) dX7_makeCharacters_21 rfl ?_
    refine sm_aaloadT (pc := 22) dX7_makeCharacters_22 ?_
    refine sm_iconst (pc := 23) dX7_makeCharacters_23 zc_i_0 ?_
    refine sm_aload_n (pc := 24) (n := 0) dX7_makeCharacters_24 rfl ?_
    refine gf_X7_19 (pc := 25) rfl dX7_makeCharacters_25 ?_
    refine sm_copyQ (pc := 28) wd_230 wd_80 wd_79 wd_7 (by decide) dX7_makeCharacters_28 ?_
    refine sm_iconst (pc := 31) dX7_makeCharacters_31 zc_i_0 ?_
    refine sm_istore_n (pc := 32) (n := 2) dX7_makeCharacters_32 rfl ?_
    exact (sm_loopJ (j := 1) (fun G1 hG1 r33 hr33 => @slX7_makeCharactersa_33 d G1 P r2 r33 (hr2.mv hG1 (by decide)) hr33) _).use
noncomputable def b_X7_makeCharactersa {d : Nat} (P : zP d) : zK d := (xpI 0 (xist 1 (xloop (fun r2 => (lX7_makeCharactersa_2 P r2)) 100000)))
set_option maxRecDepth 100000 in
set_option maxHeartbeats 4000000 in
theorem s_X7_makeCharactersa {d : Nat} [zGh] (P : zP d) : zSim X_X7_makeCharacters 2 P 0 (b_X7_makeCharactersa P) := by
  unfold b_X7_makeCharactersa
  refine sm_iconst (pc := 0) dX7_makeCharacters_0 zc_i_0 ?_
  refine sm_istore_n (pc := 1) (n := 1) dX7_makeCharacters_1 rfl ?_
  exact (sm_loopJ (j := 1) (fun G1 hG1 r2 hr2 => @slX7_makeCharactersa_2 d G1 P r2 hr2) _).use
noncomputable def f_X7_makeCharactersa {d : Nat} : List zV → zH d → zP d → Bool := zfn 5 b_X7_makeCharactersa
theorem m_X7_makeCharactersa {d : Nat} : zMet (d := d) X_X7_makeCharacters yX7_makeCharacters 2 f_X7_makeCharactersa := zmet_mk (X := X_X7_makeCharacters) (by decide) rfl rfl s_X7_makeCharactersa

noncomputable def zk_99_zs1_69_X7_makeCharacters_0 : zT 2 := @Prod.mk (zT 1) (zT 1) ((23, 14, 0x50000000003800000000b800000000a800000000980000000088000000007000000000280000000058000000004000000000100000000010000000001), (0, 1, 1)) ((3, 1, 4), (0, 1, 0x100000000))
noncomputable def h0_X7_makeCharacters_0 : zH 3 := (show zT 3 from (zk_99_zs1_69_X7_makeCharacters_0, (((3, 1, 6), (0, 1, 0)), zO1)), (6, (0, 0)))
noncomputable def h1_X7_makeCharacters_0 : zH 3 := (show zT 3 from (zk_99_zs1_69_X7_makeCharacters_0, (((3, 1, 6), (0, 1, 0x100000000)), zO1)), (6, (0, 0)))
theorem ev_X7_makeCharacters_0 : f_X7_makeCharactersa [zR 1] h0_X7_makeCharacters_0 (zrk (zU) h1_X7_makeCharacters_0) = true := by decide +kernel
noncomputable def g_X7_makeCharacters_0 {d : Nat} : List zV → zH d → zP d → Bool := zsmy [(0, 0), (1, 5), (1, 11), (3, 0), (1, 12), (5, 0)] [zR 1] h0_X7_makeCharacters_0 (zU) h1_X7_makeCharacters_0
theorem mg_X7_makeCharacters_0 {d : Nat} : zMet (d := d) X_X7_makeCharacters yX7_makeCharacters 2 g_X7_makeCharacters_0 := zMet_sm m_X7_makeCharactersa ev_X7_makeCharacters_0
noncomputable def zk_99_zs1_69_X7_makeCharacters_1 : zT 2 := @Prod.mk (zT 1) (zT 1) ((23, 14, 0x60000000003800000000b800000000a800000000980000000088000000007000000000280000000058000000004000000000200000000020000000002), (0, 2, 0x10000000001)) ((3, 2, 0x50000000004), (0, 2, 0x1000000000100000000))
noncomputable def h0_X7_makeCharacters_1 : zH 3 := (show zT 3 from (zk_99_zs1_69_X7_makeCharacters_1, (((0, 2, 0x1000000000100000000), (3, 2, 0x80000000007)), ((0, 2, 0), (0, 2, 0)))), (8, (0, 0)))
noncomputable def h1_X7_makeCharacters_1 : zH 3 := (show zT 3 from (zk_99_zs1_69_X7_makeCharacters_1, (((0, 2, 0x1000000000100000000), (3, 2, 0x80000000007)), ((0, 2, 0x1000000000100000000), (0, 2, 0x1000000000100000000)))), (8, (0, 0)))
theorem ev_X7_makeCharacters_1 : f_X7_makeCharactersa [zR 1] h0_X7_makeCharacters_1 (zrk (zU) h1_X7_makeCharacters_1) = true := by decide +kernel
noncomputable def g_X7_makeCharacters_1 {d : Nat} : List zV → zH d → zP d → Bool := zsmy [(0, 0), (1, 5), (1, 11), (3, 0), (3, 1), (1, 12), (6, 0), (6, 1)] [zR 1] h0_X7_makeCharacters_1 (zU) h1_X7_makeCharacters_1
theorem mg_X7_makeCharacters_1 {d : Nat} : zMet (d := d) X_X7_makeCharacters yX7_makeCharacters 2 g_X7_makeCharacters_1 := zMet_sm m_X7_makeCharactersa ev_X7_makeCharacters_1
noncomputable def zk_99_zs1_69_X7_makeCharacters_2 : zT 2 := @Prod.mk (zT 1) (zT 1) ((23, 14, 0x70000000003800000000b800000000a800000000980000000088000000007000000000280000000058000000004000000000600000000030000000003), (0, 3, 0x100000000030000000002)) ((3, 3, 0x600000000050000000004), (0, 3, 0x10000000001000000000100000000))
noncomputable def zk_99_zs1_69_X7_makeCharacters_3 : zT 1 := @Prod.mk (zT 0) (zT 0) (0, 3, 0x10000000001000000000100000000) (0, 3, 0x10000000001000000000100000000)
noncomputable def h0_X7_makeCharacters_2 : zH 4 := (show zT 4 from ((zk_99_zs1_69_X7_makeCharacters_2, (zk_99_zs1_69_X7_makeCharacters_3, ((3, 3, 0xa00000000090000000008), (0, 3, 0)))), ((((0, 3, 0), (0, 3, 0)), zO1), zO2)), (10, (0, 0)))
noncomputable def h1_X7_makeCharacters_2 : zH 4 := (show zT 4 from ((zk_99_zs1_69_X7_makeCharacters_2, (zk_99_zs1_69_X7_makeCharacters_3, ((3, 3, 0xa00000000090000000008), (0, 3, 0x10000000001000000000100000000)))), ((zk_99_zs1_69_X7_makeCharacters_3, zO1), zO2)), (10, (0, 0)))
theorem ev_X7_makeCharacters_2 : f_X7_makeCharactersa [zR 1] h0_X7_makeCharacters_2 (zrk (zU) h1_X7_makeCharacters_2) = true := by decide +kernel
noncomputable def g_X7_makeCharacters_2 {d : Nat} : List zV → zH d → zP d → Bool := zsmy [(0, 0), (1, 5), (1, 11), (3, 0), (3, 1), (3, 2), (1, 12), (7, 0), (7, 1), (7, 2)] [zR 1] h0_X7_makeCharacters_2 (zU) h1_X7_makeCharacters_2
theorem mg_X7_makeCharacters_2 {d : Nat} : zMet (d := d) X_X7_makeCharacters yX7_makeCharacters 2 g_X7_makeCharacters_2 := zMet_sm m_X7_makeCharactersa ev_X7_makeCharacters_2
noncomputable def zk_99_zs1_69_X7_makeCharacters_4 : zT 1 := @Prod.mk (zT 0) (zT 0) (0, 5, 0x1000000000100000000010000000001000000000100000000) (0, 5, 0x1000000000100000000010000000001000000000100000000)
noncomputable def zk_99_zs1_69_X7_makeCharacters_5 : zT 3 := @Prod.mk (zT 2) (zT 2) (((23, 14, 0x90000000003800000000b800000000a800000000980000000088000000007000000000280000000058000000004000000001800000000050000000004), (0, 5, 0x10000000006000000000300000000080000000006)), ((3, 5, 0x80000000007000000000600000000050000000004), (0, 5, 0x1000000000100000000010000000001000000000100000000))) (zk_99_zs1_69_X7_makeCharacters_4, zk_99_zs1_69_X7_makeCharacters_4)
noncomputable def h0_X7_makeCharacters_3 : zH 4 := (show zT 4 from (zk_99_zs1_69_X7_makeCharacters_5, ((((3, 5, 0xe000000000d000000000c000000000b000000000a), (0, 5, 0)), ((0, 5, 0), (0, 5, 0))), (((0, 5, 0), (0, 5, 0)), zO1))), (14, (0, 0)))
noncomputable def h1_X7_makeCharacters_3 : zH 4 := (show zT 4 from (zk_99_zs1_69_X7_makeCharacters_5, ((((3, 5, 0xe000000000d000000000c000000000b000000000a), (0, 5, 0x1000000000100000000010000000001000000000100000000)), zk_99_zs1_69_X7_makeCharacters_4), (zk_99_zs1_69_X7_makeCharacters_4, zO1))), (14, (0, 0)))
theorem ev_X7_makeCharacters_3 : f_X7_makeCharactersa [zR 1] h0_X7_makeCharacters_3 (zrk (zU) h1_X7_makeCharacters_3) = true := by decide +kernel
noncomputable def g_X7_makeCharacters_3 {d : Nat} : List zV → zH d → zP d → Bool := zsmy [(0, 0), (1, 5), (1, 11), (3, 0), (3, 1), (3, 2), (3, 3), (3, 4), (1, 12), (9, 0), (9, 1), (9, 2), (9, 3), (9, 4)] [zR 1] h0_X7_makeCharacters_3 (zU) h1_X7_makeCharacters_3
theorem mg_X7_makeCharacters_3 {d : Nat} : zMet (d := d) X_X7_makeCharacters yX7_makeCharacters 2 g_X7_makeCharacters_3 := zMet_sm m_X7_makeCharactersa ev_X7_makeCharacters_3
noncomputable def zk_99_zs1_69_X7_makeCharacters_6 : zC := (0, 7, 0x100000000010000000001000000000100000000010000000001000000000100000000)
noncomputable def zk_99_zs1_69_X7_makeCharacters_7 : zT 1 := @Prod.mk (zT 0) (zT 0) zk_99_zs1_69_X7_makeCharacters_6 zk_99_zs1_69_X7_makeCharacters_6
noncomputable def zk_99_zs1_69_X7_makeCharacters_8 : zT 2 := @Prod.mk (zT 1) (zT 1) zk_99_zs1_69_X7_makeCharacters_7 zk_99_zs1_69_X7_makeCharacters_7
noncomputable def zk_99_zs1_69_X7_makeCharacters_9 : zT 3 := @Prod.mk (zT 2) (zT 2) (((23, 14, 0xb0000000003800000000b800000000a800000000980000000088000000007000000000280000000058000000004000000007800000000070000000005), (0, 7, 0x1000000000a000000000f00000000140000000014000000001e0000000018)), ((3, 7, 0xa000000000900000000080000000007000000000600000000050000000004), zk_99_zs1_69_X7_makeCharacters_6)) zk_99_zs1_69_X7_makeCharacters_8
noncomputable def zk_99_zs1_69_X7_makeCharacters_10 : zC := (3, 7, 0x1200000000110000000010000000000f000000000e000000000d000000000c)
noncomputable def h0_X7_makeCharacters_4 : zH 5 := (show zT 5 from ((zk_99_zs1_69_X7_makeCharacters_9, ((zk_99_zs1_69_X7_makeCharacters_7, (zk_99_zs1_69_X7_makeCharacters_10, (0, 7, 0))), (((0, 7, 0), (0, 7, 0)), ((0, 7, 0), (0, 7, 0))))), (((((0, 7, 0), (0, 7, 0)), zO1), zO2), zO3)), (18, (0, 0)))
noncomputable def h1_X7_makeCharacters_4 : zH 5 := (show zT 5 from ((zk_99_zs1_69_X7_makeCharacters_9, ((zk_99_zs1_69_X7_makeCharacters_7, (zk_99_zs1_69_X7_makeCharacters_10, zk_99_zs1_69_X7_makeCharacters_6)), zk_99_zs1_69_X7_makeCharacters_8)), (((zk_99_zs1_69_X7_makeCharacters_7, zO1), zO2), zO3)), (18, (0, 0)))
theorem ev_X7_makeCharacters_4 : f_X7_makeCharactersa [zR 1] h0_X7_makeCharacters_4 (zrk (zU) h1_X7_makeCharacters_4) = true := by decide +kernel
noncomputable def g_X7_makeCharacters_4 {d : Nat} : List zV → zH d → zP d → Bool := zsmy [(0, 0), (1, 5), (1, 11), (3, 0), (3, 1), (3, 2), (3, 3), (3, 4), (3, 5), (3, 6), (1, 12), (11, 0), (11, 1), (11, 2), (11, 3), (11, 4), (11, 5), (11, 6)] [zR 1] h0_X7_makeCharacters_4 (zU) h1_X7_makeCharacters_4
theorem mg_X7_makeCharacters_4 {d : Nat} : zMet (d := d) X_X7_makeCharacters yX7_makeCharacters 2 g_X7_makeCharacters_4 := zMet_sm m_X7_makeCharactersa ev_X7_makeCharacters_4
noncomputable def zk_99_zs1_69_X7_makeCharacters_11 : zT 1 := @Prod.mk (zT 0) (zT 0) (0, 11, zun 40 11 4294967296) (0, 11, zun 40 11 4294967296)
noncomputable def zk_99_zs1_69_X7_makeCharacters_12 : zT 2 := @Prod.mk (zT 1) (zT 1) zk_99_zs1_69_X7_makeCharacters_11 zk_99_zs1_69_X7_makeCharacters_11
noncomputable def zk_99_zs1_69_X7_makeCharacters_13 : zT 3 := @Prod.mk (zT 2) (zT 2) (((23, 14, 0xf0000000003800000000b800000000a80000000098000000008800000000700000000028000000005800000000400000002d0000000000b0000000006), (0, 11, 0x1000000000f000000002d000000000f000000002800000000780000000028000000005a000000005a00000000900000000078)), ((3, 11, 0xe000000000d000000000c000000000b000000000a000000000900000000080000000007000000000600000000050000000004), (0, 11, zun 40 11 4294967296))) zk_99_zs1_69_X7_makeCharacters_12
noncomputable def zk_99_zs1_69_X7_makeCharacters_14 : zC := (3, 11, 0x1a0000000019000000001800000000170000000016000000001500000000140000000013000000001200000000110000000010)
noncomputable def h0_X7_makeCharacters_5 : zH 5 := (show zT 5 from ((zk_99_zs1_69_X7_makeCharacters_13, (zk_99_zs1_69_X7_makeCharacters_12, (zk_99_zs1_69_X7_makeCharacters_11, (zk_99_zs1_69_X7_makeCharacters_14, (0, 11, 0))))), (((((0, 11, 0), (0, 11, 0)), ((0, 11, 0), (0, 11, 0))), (((0, 11, 0), (0, 11, 0)), ((0, 11, 0), (0, 11, 0)))), ((((0, 11, 0), (0, 11, 0)), zO1), zO2))), (26, (0, 0)))
noncomputable def h1_X7_makeCharacters_5 : zH 5 := (show zT 5 from ((zk_99_zs1_69_X7_makeCharacters_13, (zk_99_zs1_69_X7_makeCharacters_12, (zk_99_zs1_69_X7_makeCharacters_11, (zk_99_zs1_69_X7_makeCharacters_14, (0, 11, zun 40 11 4294967296))))), ((zk_99_zs1_69_X7_makeCharacters_12, zk_99_zs1_69_X7_makeCharacters_12), ((zk_99_zs1_69_X7_makeCharacters_11, zO1), zO2))), (26, (0, 0)))
theorem ev_X7_makeCharacters_5 : f_X7_makeCharactersa [zR 1] h0_X7_makeCharacters_5 (zrk (zU) h1_X7_makeCharacters_5) = true := by decide +kernel
noncomputable def g_X7_makeCharacters_5 {d : Nat} : List zV → zH d → zP d → Bool := zsmy [(0, 0), (1, 5), (1, 11), (3, 0), (3, 1), (3, 2), (3, 3), (3, 4), (3, 5), (3, 6), (3, 7), (3, 8), (3, 9), (3, 10), (1, 12), (15, 0), (15, 1), (15, 2), (15, 3), (15, 4), (15, 5), (15, 6), (15, 7), (15, 8), (15, 9), (15, 10)] [zR 1] h0_X7_makeCharacters_5 (zU) h1_X7_makeCharacters_5
theorem mg_X7_makeCharacters_5 {d : Nat} : zMet (d := d) X_X7_makeCharacters yX7_makeCharacters 2 g_X7_makeCharacters_5 := zMet_sm m_X7_makeCharactersa ev_X7_makeCharacters_5
noncomputable def g_X7_makeCharacters {d : Nat} : List zV → zH d → zP d → Bool := (zor2 g_X7_makeCharacters_0 (zor2 g_X7_makeCharacters_1 (zor2 g_X7_makeCharacters_2 (zor2 g_X7_makeCharacters_3 (zor2 g_X7_makeCharacters_4 (zor2 g_X7_makeCharacters_5 (fun _ _ _ => false)))))))
theorem mg_X7_makeCharacters {d : Nat} : zMet (d := d) X_X7_makeCharacters yX7_makeCharacters 2 g_X7_makeCharacters := (zMet_or mg_X7_makeCharacters_0 (zMet_or mg_X7_makeCharacters_1 (zMet_or mg_X7_makeCharacters_2 (zMet_or mg_X7_makeCharacters_3 (zMet_or mg_X7_makeCharacters_4 (zMet_or mg_X7_makeCharacters_5 zfalse))))))
end
section
/-! the class by summaries, by program -/
noncomputable def cX4_codeOfa_44 {d : Nat} (P : zP d) (r6 : zK d) : zK d := (xist 4 (xincR 5 1 r6))
set_option maxRecDepth 100000 in
set_option maxHeartbeats 4000000 in
theorem scX4_codeOfa_44 {d : Nat} [zGh] (P : zP d) (r6 : zK d) (hr6 : zSimJ 1 X_X4_codeOf 1 P 6 r6) : zSim X_X4_codeOf 1 P 44 (cX4_codeOfa_44 P r6) := by
  unfold cX4_codeOfa_44
  refine sm_istore (pc := 44) (n := 4) dX4_codeOf_44 ?_
  refine sm_iincR (pc := 46) (n := 5) dX4_codeOf_46 zc_i_1 ?_
  refine sm_goto (pc := 49) (tgt := 6) dX4_codeOf_49 (by decide) ?_
  exact hr6.use
noncomputable def lX4_codeOfa_6 {d : Nat} (P : zP d) (r6 : zK d) : zK d := (xild 5 (xald 0 (xgfI 20 0 (xcmpS tgeR rlGe rhS rlS rhLt (xild 4 (xiret P)) (xild 4 (xald 0 (xgfR 20 9 (xild 2 (xald 0 (xgfI 20 0 (xbin zmulR (xild 5 (xbin zaddR (xalQ 0 (xald 0 (xgfR 20 12 (xald 3 (xald 1 (xild 5 (xalQ 0 (xalQ 0 (xalQ 0 (xbin zmulR (xbin zaddR (cX4_codeOfa_44 P r6)))))))))))))))))))))))))
set_option maxRecDepth 100000 in
set_option maxHeartbeats 4000000 in
theorem slX4_codeOfa_6 {d : Nat} [zGh] (P : zP d) (r6 : zK d) (hr6 : zSimJ 1 X_X4_codeOf 1 P 6 r6) : zSim X_X4_codeOf 1 P 6 (lX4_codeOfa_6 P r6) := by
  unfold lX4_codeOfa_6
  refine sm_iload (pc := 6) (n := 5) dX4_codeOf_6 ?_
  refine sm_aload_n (pc := 8) (n := 0) dX4_codeOf_8 rfl ?_
  refine gf_X4_7 (pc := 9) rfl dX4_codeOf_9 ?_
  refine sm_icmpS_ge (pc := 12) (tgt := 52) dX4_codeOf_12 (by decide) ?_ ?_
  · skip
    refine sm_iload (pc := 52) (n := 4) dX4_codeOf_52 ?_
    exact sm_ireturn (pc := 54) dX4_codeOf_54 rfl
  · skip
    refine sm_iload (pc := 15) (n := 4) dX4_codeOf_15 ?_
    refine sm_aload_n (pc := 17) (n := 0) dX4_codeOf_17 rfl ?_
    refine gf_X4_63 (pc := 18) rfl dX4_codeOf_18 ?_
    refine sm_iload_n (pc := 21) (n := 2) dX4_codeOf_21 rfl ?_
    refine sm_aload_n (pc := 22) (n := 0) dX4_codeOf_22 rfl ?_
    refine gf_X4_7 (pc := 23) rfl dX4_codeOf_23 ?_
    refine sm_imulR (pc := 26) dX4_codeOf_26 ?_
    refine sm_iload (pc := 27) (n := 5) dX4_codeOf_27 ?_
    refine sm_iaddR (pc := 29) dX4_codeOf_29 ?_
    refine sm_ialoadQ (pc := 30) dX4_codeOf_30 ?_
    refine sm_aload_n (pc := 31) (n := 0) dX4_codeOf_31 rfl ?_
    refine gf_X4_80 (pc := 32) rfl dX4_codeOf_32 ?_
    refine sm_aload_n (pc := 35) (n := 3) dX4_codeOf_35 rfl ?_
    refine sm_aload_n (pc := 36) (n := 1) dX4_codeOf_36 rfl ?_
    refine sm_iload (pc := 37) (n := 5) dX4_codeOf_37 ?_
    refine sm_ialoadQ (pc := 39) dX4_codeOf_39 ?_
    refine sm_ialoadQ (pc := 40) dX4_codeOf_40 ?_
    refine sm_ialoadQ (pc := 41) dX4_codeOf_41 ?_
    refine sm_imulR (pc := 42) dX4_codeOf_42 ?_
    refine sm_iaddR (pc := 43) dX4_codeOf_43 ?_
    exact scX4_codeOfa_44 P r6 hr6
noncomputable def b_X4_codeOfa {d : Nat} (P : zP d) : zK d := (xpI 0 (xist 4 (xpI 0 (xist 5 (xloop (fun r6 => (lX4_codeOfa_6 P r6)) 100000)))))
set_option maxRecDepth 100000 in
set_option maxHeartbeats 4000000 in
theorem s_X4_codeOfa {d : Nat} [zGh] (P : zP d) : zSim X_X4_codeOf 1 P 0 (b_X4_codeOfa P) := by
  unfold b_X4_codeOfa
  refine sm_iconst (pc := 0) dX4_codeOf_0 zc_i_0 ?_
  refine sm_istore (pc := 1) (n := 4) dX4_codeOf_1 ?_
  refine sm_iconst (pc := 3) dX4_codeOf_3 zc_i_0 ?_
  refine sm_istore (pc := 4) (n := 5) dX4_codeOf_4 ?_
  exact (sm_loopJ (j := 1) (fun G1 hG1 r6 hr6 => @slX4_codeOfa_6 d G1 P r6 hr6) _).use
noncomputable def f_X4_codeOfa {d : Nat} : List zV → zH d → zP d → Bool := zfn 6 b_X4_codeOfa
theorem m_X4_codeOfa {d : Nat} : zMet (d := d) X_X4_codeOf yX4_codeOf 1 f_X4_codeOfa := zmet_mk (X := X_X4_codeOf) (by decide) rfl rfl s_X4_codeOfa
end
section
/-! the class by summaries, by program -/
noncomputable def lX4_formWitha_5 {d : Nat} (P : zP d) (r5 : zK d) : zK d := (xild 4 (xaldV 0 (xgfI 20 8 (xcmpS tgeR rlGe rhS rlS rhLt (xild 3 (xiret P)) (xild 3 (xaldV 0 (xgfR 20 10 (xild 4 (xalQ 0 (xaldV 2 (xaldV 1 (xild 4 (xalQ 0 (xalQ 0 (xbin zmulR (xbin zaddR (xist 3 (xincR 4 1 r5))))))))))))))))))
set_option maxRecDepth 100000 in
set_option maxHeartbeats 4000000 in
theorem slX4_formWitha_5 {d : Nat} [zGh] (P : zP d) (r5 : zK d) (hr5 : zSimJ 2 X_X4_formWith 1 P 5 r5) : zSim X_X4_formWith 1 P 5 (lX4_formWitha_5 P r5) := by
  unfold lX4_formWitha_5
  refine sm_iload (pc := 5) (n := 4) dX4_formWith_5 ?_
  refine sm_aloadV_n (pc := 7) (n := 0) dX4_formWith_7 rfl ?_
  refine gf_X4_60 (pc := 8) rfl dX4_formWith_8 ?_
  refine sm_icmpS_ge (pc := 11) (tgt := 37) dX4_formWith_11 (by decide) ?_ ?_
  · skip
    refine sm_iload_n (pc := 37) (n := 3) dX4_formWith_37 rfl ?_
    exact sm_ireturn (pc := 38) dX4_formWith_38 rfl
  · skip
    refine sm_iload_n (pc := 14) (n := 3) dX4_formWith_14 rfl ?_
    refine sm_aloadV_n (pc := 15) (n := 0) dX4_formWith_15 rfl ?_
    refine gf_X4_66 (pc := 16) rfl dX4_formWith_16 ?_
    refine sm_iload (pc := 19) (n := 4) dX4_formWith_19 ?_
    refine sm_ialoadQ (pc := 21) dX4_formWith_21 ?_
    refine sm_aloadV_n (pc := 22) (n := 2) dX4_formWith_22 rfl ?_
    refine sm_aloadV_n (pc := 23) (n := 1) dX4_formWith_23 rfl ?_
    refine sm_iload (pc := 24) (n := 4) dX4_formWith_24 ?_
    refine sm_ialoadQ (pc := 26) dX4_formWith_26 ?_
    refine sm_ialoadQ (pc := 27) dX4_formWith_27 ?_
    refine sm_imulR (pc := 28) dX4_formWith_28 ?_
    refine sm_iaddR (pc := 29) dX4_formWith_29 ?_
    refine sm_istore_n (pc := 30) (n := 3) dX4_formWith_30 rfl ?_
    refine sm_iincR (pc := 31) (n := 4) dX4_formWith_31 zc_i_1 ?_
    refine sm_goto (pc := 34) (tgt := 5) dX4_formWith_34 (by decide) ?_
    exact hr5.use
noncomputable def b_X4_formWitha {d : Nat} (P : zP d) : zK d := (xpI 0 (xist 3 (xpI 0 (xist 4 (xlp 4 1 (hsF 0 [] 8) (wkL 3 4294967296 wkE) (fun r5 => (lX4_formWitha_5 P r5)))))))
set_option maxRecDepth 100000 in
set_option maxHeartbeats 4000000 in
theorem s_X4_formWitha {d : Nat} [zGh] (P : zP d) : zSim X_X4_formWith 1 P 0 (b_X4_formWitha P) := by
  unfold b_X4_formWitha
  refine sm_iconst (pc := 0) dX4_formWith_0 zc_i_0 ?_
  refine sm_istore_n (pc := 1) (n := 3) dX4_formWith_1 rfl ?_
  refine sm_iconst (pc := 2) dX4_formWith_2 zc_i_0 ?_
  refine sm_istore (pc := 3) (n := 4) dX4_formWith_3 ?_
  exact sm_lp (i := 4) (j := 1) (by decide) (by decide) hsF_ok (wkL_ok wkE_ok) (fun G1 hG1 r5 hr5 => @slX4_formWitha_5 d G1 P r5 hr5)
noncomputable def f_X4_formWitha {d : Nat} : List zV → zH d → zP d → Bool := zfn 5 b_X4_formWitha
theorem m_X4_formWitha {d : Nat} : zMet (d := d) X_X4_formWith yX4_formWith 1 f_X4_formWitha := zmet_mk (X := X_X4_formWith) (by decide) rfl rfl s_X4_formWitha
end
