/-! the reference reads, under T: by program -/
theorem gfT_X9_353 [zGh] {d : Nat} {X : zM} {fr : Nat} {P : zP d} {pc : Nat} {k : zK d} (h1 : X.1 = RX9) (dg : decode X.2.1 pc = .ok (.getfield 353, 3)) (hs : zSim X fr P (pc + 3) k) : zSim X fr P pc (xgfT 25 47 k) := sm_getfieldT (ci := 9) (n := 47) (C := RX9) (T := TX9) (N := 63) rfl rfl inz9 rfl (by decide) rfl (by rw [h1]; exact wd_1065) rfl dg hs
theorem gfT_X9_380 [zGh] {d : Nat} {X : zM} {fr : Nat} {P : zP d} {pc : Nat} {k : zK d} (h1 : X.1 = RX9) (dg : decode X.2.1 pc = .ok (.getfield 380, 3)) (hs : zSim X fr P (pc + 3) k) : zSim X fr P pc (xgfT 25 61 k) := sm_getfieldT (ci := 9) (n := 61) (C := RX9) (T := TX9) (N := 63) rfl rfl inz9 rfl (by decide) rfl (by rw [h1]; exact wd_1079) rfl dg hs
theorem pfT_X9_380 [zGh] {d : Nat} {X : zM} {fr : Nat} {P : zP d} {pc : Nat} {k : zK d} (h1 : X.1 = RX9) (dg : decode X.2.1 pc = .ok (.putfield 380, 3)) (hs : zSim X fr P (pc + 3) k) : zSim X fr P pc (xpfT 25 61 k) := sm_putT (ci := 9) (n := 61) (ty := .int) rfl (by decide) rfl rfl (zput (C := RX9) (T := TX9) (N := 63) (ty0 := tyX9) (ty := .int) inz9 tyX9_ok nmX9 rfl (by decide) (by rw [h1]; exact wd_1079) rfl rfl dg) hs
theorem gfC_X9_370 [zGh] {d : Nat} {X : zM} {fr : Nat} {P : zP d} {pc m0 : Nat} {k : zK d} (h1 : X.1 = RX9) (dg : decode X.2.1 pc = .ok (.getfield 370, 3)) (hs : zSim X fr P (pc + 3) k) : zSim X fr P pc (xgfC 25 54 m0 k) := sm_getfieldC (ci := 9) (n := 54) (C := RX9) (T := TX9) (N := 63) rfl rfl inz9 rfl (by decide) rfl (by rw [h1]; exact wd_1072) rfl dg hs
noncomputable def bX9_isInt_18 {d : Nat} (P : zP d) : zK d := (xzret P)
set_option maxRecDepth 100000 in
set_option maxHeartbeats 4000000 in
theorem sbX9_isInt_18 {d : Nat} [zGh] (P : zP d) : zSim X_X9_isIn 1 P 18 (bX9_isInt_18 P) := by
  unfold bX9_isInt_18
  exact sm_zreturn (pc := 18) dX9_isIn_18 rfl
noncomputable def bX9_isInt_17 {d : Nat} (P : zP d) (j18 : zK d) : zK d := (xpI 0 j18)
set_option maxRecDepth 100000 in
set_option maxHeartbeats 4000000 in
theorem sbX9_isInt_17 {d : Nat} [zGh] (P : zP d) (j18 : zK d) (hj18 : zSimJ 1 X_X9_isIn 1 P 18 j18) : zSim X_X9_isIn 1 P 17 (bX9_isInt_17 P j18) := by
  unfold bX9_isInt_17
  refine sm_iconst (pc := 17) dX9_isIn_17 zc_i_0 ?_
  exact hj18.use
noncomputable def b_X9_isInt {d : Nat} (P : zP d) : zK d := (xlld 0 (xlld 2 (xlcmpR (xjoin (bX9_isInt_18 P) (fun j18 => (xjoin (bX9_isInt_17 P j18) (fun j17 => (xif0S tgeR rlGe rhS rlS rhLt (xlld 0 (xlld 4 (xlcmpR (xif0S tleR rlS rhLe rlGt rhS (xpI 1 j18) j17)))) j17))))))))
set_option maxRecDepth 100000 in
set_option maxHeartbeats 4000000 in
theorem s_X9_isInt {d : Nat} [zGh] (P : zP d) : zSim X_X9_isIn 1 P 0 (b_X9_isInt P) := by
  unfold b_X9_isInt
  refine sm_lload_n (pc := 0) (n := 0) dX9_isIn_0 rfl ?_
  refine sm_lload_n (pc := 1) (n := 2) dX9_isIn_1 rfl ?_
  refine sm_lcmpR (pc := 2) dX9_isIn_2 ?_
  refine sm_joinJ (pc := 3) (pc' := 18) (j := 1) (fun G0 hG0 => @sbX9_isInt_18 d G0 P) (fun j18 hj18 => ?_)
  refine sm_joinJ (pc := 3) (pc' := 17) (j := 1) (fun G0 hG0 => @sbX9_isInt_17 d G0 P j18 (hj18.mv hG0 (by decide))) (fun j17 hj17 => ?_)
  refine sm_ifS_lt (pc := 3) (tgt := 17) dX9_isIn_3 (by decide) ?_ ?_
  · skip
    exact hj17.use
  · skip
    refine sm_lload_n (pc := 6) (n := 0) dX9_isIn_6 rfl ?_
    refine sm_lload (pc := 7) (n := 4) dX9_isIn_7 ?_
    refine sm_lcmpR (pc := 9) dX9_isIn_9 ?_
    refine sm_ifS_gt (pc := 10) (tgt := 17) dX9_isIn_10 (by decide) ?_ ?_
    · skip
      exact hj17.use
    · skip
      refine sm_iconst (pc := 13) dX9_isIn_13 zc_i_1 ?_
      refine sm_goto (pc := 14) (tgt := 18) dX9_isIn_14 (by decide) ?_
      exact hj18.use
noncomputable def f_X9_isInt {d : Nat} : List zV → zH d → zP d → Bool := zfn 6 (b_X9_isInt )
theorem m_X9_isInt {d : Nat} : zMet (d := d) X_X9_isIn yX9_isIn 1 (f_X9_isInt ) := zmet_mk (X := X_X9_isIn) (by decide) rfl rfl (fun P => s_X9_isInt P)

noncomputable def b_X9_isSlott {d : Nat} (P : zP d) : zK d := (xild 0 (xi2lR (xpL 0 (xpL 5 (xcS 3 0 0 (zstr f_X9_isInt) (xzret P))))))
set_option maxRecDepth 100000 in
set_option maxHeartbeats 4000000 in
theorem s_X9_isSlott {d : Nat} [zGh] (P : zP d) : zSim X_X9_isSlot 2 P 0 (b_X9_isSlott P) := by
  unfold b_X9_isSlott
  refine sm_iload_n (pc := 0) (n := 0) dX9_isSlot_0 rfl ?_
  refine sm_i2lR (pc := 1) dX9_isSlot_1 ?_
  refine sm_lconst (pc := 2) dX9_isSlot_2 zc_l_0 ?_
  refine sm_ldc2 (pc := 3) dX9_isSlot_3 wd_1247 zc_cl_5 ?_
  refine sm_cS (pc := 6) (n := 3) (mc := 0) (ms := 0) (zMet_str m_X9_isInt) (cr_X9_283 (X := X_X9_isSlot) (fr := 2) (frc := 1) (pc := 6) (mc := 0) (ms := 0) rfl (by decide) dX9_isSlot_6) ?_
  exact sm_zreturn (pc := 9) dX9_isSlot_9 rfl
noncomputable def f_X9_isSlott {d : Nat} : List zV → zH d → zP d → Bool := zfn 1 (b_X9_isSlott )
theorem m_X9_isSlott {d : Nat} : zMet (d := d) X_X9_isSlot yX9_isSlot 2 (f_X9_isSlott ) := zmet_mk (X := X_X9_isSlot) (by decide) rfl rfl (fun P => s_X9_isSlott P)

noncomputable def bX9_partOft_21 {d : Nat} (P : zP d) : zK d := (xiret P)
set_option maxRecDepth 100000 in
set_option maxHeartbeats 4000000 in
theorem sbX9_partOft_21 {d : Nat} [zGh] (P : zP d) : zSim X_X9_partOf 1 P 21 (bX9_partOft_21 P) := by
  unfold bX9_partOft_21
  exact sm_ireturn (pc := 21) dX9_partOf_21 rfl
noncomputable def b_X9_partOft {d : Nat} (P : zP d) : zK d := (xild 2 (xpI 6 (xjoin (bX9_partOft_21 P) (fun j21 => (xcmpS tgeR rlGe rhS rlS rhLt (xpI 0 j21) (xaldV 0 (xgfR 25 3 (xpI 6 (xild 1 (xbin zmulR (xild 2 (xbin zaddR (xalQ 0 j21)))))))))))))
set_option maxRecDepth 100000 in
set_option maxHeartbeats 4000000 in
theorem s_X9_partOft {d : Nat} [zGh] (P : zP d) : zSim X_X9_partOf 1 P 0 (b_X9_partOft P) := by
  unfold b_X9_partOft
  refine sm_iload_n (pc := 0) (n := 2) dX9_partOf_0 rfl ?_
  refine sm_bipush (pc := 1) dX9_partOf_1 zc_b_6 ?_
  refine sm_joinJ (pc := 3) (pc' := 21) (j := 1) (fun G0 hG0 => @sbX9_partOft_21 d G0 P) (fun j21 hj21 => ?_)
  refine sm_icmpS_ge (pc := 3) (tgt := 20) dX9_partOf_3 (by decide) ?_ ?_
  · skip
    refine sm_iconst (pc := 20) dX9_partOf_20 zc_i_0 ?_
    exact hj21.use
  · skip
    refine sm_aloadV_n (pc := 6) (n := 0) dX9_partOf_6 rfl ?_
    refine gf_X9_7 (pc := 7) rfl dX9_partOf_7 ?_
    refine sm_bipush (pc := 10) dX9_partOf_10 zc_b_6 ?_
    refine sm_iload_n (pc := 12) (n := 1) dX9_partOf_12 rfl ?_
    refine sm_imulR (pc := 13) dX9_partOf_13 ?_
    refine sm_iload_n (pc := 14) (n := 2) dX9_partOf_14 rfl ?_
    refine sm_iaddR (pc := 15) dX9_partOf_15 ?_
    refine sm_ialoadQ (pc := 16) dX9_partOf_16 ?_
    refine sm_goto (pc := 17) (tgt := 21) dX9_partOf_17 (by decide) ?_
    exact hj21.use
noncomputable def f_X9_partOft {d : Nat} : List zV → zH d → zP d → Bool := zfn 3 (b_X9_partOft )
theorem m_X9_partOft {d : Nat} : zMet (d := d) X_X9_partOf yX9_partOf 1 (f_X9_partOft ) := zmet_mk (X := X_X9_partOf) (by decide) rfl rfl (fun P => s_X9_partOft P)

noncomputable def uX9_seet_49 {d : Nat} (P : zP d) (r0 : zK d) : zK d := r0
set_option maxRecDepth 100000 in
set_option maxHeartbeats 4000000 in
theorem suX9_seet_49 {d : Nat} [zGh] (P : zP d) (r0 : zK d) (hr0 : zSimJ 1 X_X9_see 1 P 0 r0) : zSim X_X9_see 1 P 49 (uX9_seet_49 P r0) := by
  unfold uX9_seet_49
  refine sm_goto (pc := 49) (tgt := 0) dX9_see_49 (by decide) ?_
  exact hr0.use
noncomputable def bX9_seet_39 {d : Nat} (P : zP d) (r0 : zK d) : zK d := (xaiT 25 47 (uX9_seet_49 P r0))
set_option maxRecDepth 100000 in
set_option maxHeartbeats 4000000 in
theorem sbX9_seet_39 {d : Nat} [zGh] (P : zP d) (r0 : zK d) (hr0 : zSimU 1 X_X9_see 1 P 0 r0) : zSim X_X9_see 1 P 39 (bX9_seet_39 P r0) := by
  unfold bX9_seet_39
  exact sm_aiT (pc := 39) (ci := 9) (n := 47) (C := RX9) (T := TX9) (N := 63) rfl rfl rfl zc_i_1 inz9 rfl (by decide) wd_1065 rfl dX9_see_39 rfl dX9_see_40 dX9_see_41 dX9_see_44 dX9_see_45 (zput (C := RX9) (T := TX9) (N := 63) (ty0 := tyX9) (ty := .int) inz9 tyX9_ok nmX9 rfl (by decide) wd_1065 rfl rfl dX9_see_46) (fun G2 hg0 hgm => @suX9_seet_49 d G2 P r0 (hr0.up hg0 hgm))
noncomputable def lX9_seet_0 {d : Nat} (P : zP d) (r0 : zK d) : zK d := (xfcT 25 47 46 (xfcT 25 47 46 (xpI 4294967295 (xiret P)) (xaldV 0 (xgfR 25 45 (xaldV 0 (xgfT 25 47 (xalQ 0 (xiret P))))))) (xaldV 0 (xgfR 25 45 (xaldV 0 (xgfT 25 47 (xalQ 0 (xpI 32 (xjoin (bX9_seet_39 P r0) (fun j39 => (xcmpS teqR rlEq rhEq rlNe rhNe j39 (xaldV 0 (xgfR 25 45 (xaldV 0 (xgfT 25 47 (xalQ 0 (xpI 10 (xcmpS teqR rlEq rhEq rlNe rhNe j39 (xfcT 25 47 46 (xpI 4294967295 (xiret P)) (xaldV 0 (xgfR 25 45 (xaldV 0 (xgfT 25 47 (xalQ 0 (xiret P))))))))))))))))))))))))
set_option maxRecDepth 100000 in
set_option maxHeartbeats 4000000 in
theorem slX9_seet_0 {d : Nat} [zGh] (P : zP d) (r0 : zK d) (hr0 : zSimU 1 X_X9_see 1 P 0 r0) : zSim X_X9_see 1 P 0 (lX9_seet_0 P r0) := by
  unfold lX9_seet_0
  refine sm_fcT (pc := 0) (tgt := 52) (ci := 9) (n1 := 47) (n2 := 46) (C := RX9) (T := TX9) (N := 63) rfl rfl rfl inz9 rfl (by decide) (by decide) rfl wd_1065 rfl wd_1064 rfl dX9_see_0 rfl dX9_see_1 dX9_see_4 rfl dX9_see_5 dX9_see_8 (by decide) ?_ ?_
  · skip
    refine sm_fcT (pc := 52) (tgt := 75) (ci := 9) (n1 := 47) (n2 := 46) (C := RX9) (T := TX9) (N := 63) rfl rfl rfl inz9 rfl (by decide) (by decide) rfl wd_1065 rfl wd_1064 rfl dX9_see_52 rfl dX9_see_53 dX9_see_56 rfl dX9_see_57 dX9_see_60 (by decide) ?_ ?_
    · skip
      refine sm_iconst (pc := 75) dX9_see_75 zc_i_m1 ?_
      exact sm_ireturn (pc := 76) dX9_see_76 rfl
    · skip
      refine sm_aloadV_n (pc := 63) (n := 0) dX9_see_63 rfl ?_
      refine gf_X9_121 (pc := 64) rfl dX9_see_64 ?_
      refine sm_aloadV_n (pc := 67) (n := 0) dX9_see_67 rfl ?_
      refine gfT_X9_353 (pc := 68) rfl dX9_see_68 ?_
      refine sm_ialoadQ (pc := 71) dX9_see_71 ?_
      refine sm_goto (pc := 72) (tgt := 76) dX9_see_72 (by decide) ?_
      exact sm_ireturn (pc := 76) dX9_see_76 rfl
  · skip
    refine sm_aloadV_n (pc := 11) (n := 0) dX9_see_11 rfl ?_
    refine gf_X9_121 (pc := 12) rfl dX9_see_12 ?_
    refine sm_aloadV_n (pc := 15) (n := 0) dX9_see_15 rfl ?_
    refine gfT_X9_353 (pc := 16) rfl dX9_see_16 ?_
    refine sm_ialoadQ (pc := 19) dX9_see_19 ?_
    refine sm_bipush (pc := 20) dX9_see_20 zc_b_32 ?_
    refine sm_joinJ (pc := 22) (pc' := 39) (j := 1) (fun G0 hG0 => @sbX9_seet_39 d G0 P r0 (hr0.mv hG0 (by decide))) (fun j39 hj39 => ?_)
    refine sm_icmpS_eq (pc := 22) (tgt := 39) dX9_see_22 (by decide) ?_ ?_
    · skip
      exact hj39.use
    · skip
      refine sm_aloadV_n (pc := 25) (n := 0) dX9_see_25 rfl ?_
      refine gf_X9_121 (pc := 26) rfl dX9_see_26 ?_
      refine sm_aloadV_n (pc := 29) (n := 0) dX9_see_29 rfl ?_
      refine gfT_X9_353 (pc := 30) rfl dX9_see_30 ?_
      refine sm_ialoadQ (pc := 33) dX9_see_33 ?_
      refine sm_bipush (pc := 34) dX9_see_34 zc_b_10 ?_
      refine sm_icmpS_ne (pc := 36) (tgt := 52) dX9_see_36 (by decide) ?_ ?_
      · skip
        refine sm_fcT (pc := 52) (tgt := 75) (ci := 9) (n1 := 47) (n2 := 46) (C := RX9) (T := TX9) (N := 63) rfl rfl rfl inz9 rfl (by decide) (by decide) rfl wd_1065 rfl wd_1064 rfl dX9_see_52 rfl dX9_see_53 dX9_see_56 rfl dX9_see_57 dX9_see_60 (by decide) ?_ ?_
        · skip
          refine sm_iconst (pc := 75) dX9_see_75 zc_i_m1 ?_
          exact sm_ireturn (pc := 76) dX9_see_76 rfl
        · skip
          refine sm_aloadV_n (pc := 63) (n := 0) dX9_see_63 rfl ?_
          refine gf_X9_121 (pc := 64) rfl dX9_see_64 ?_
          refine sm_aloadV_n (pc := 67) (n := 0) dX9_see_67 rfl ?_
          refine gfT_X9_353 (pc := 68) rfl dX9_see_68 ?_
          refine sm_ialoadQ (pc := 71) dX9_see_71 ?_
          refine sm_goto (pc := 72) (tgt := 76) dX9_see_72 (by decide) ?_
          exact sm_ireturn (pc := 76) dX9_see_76 rfl
      · skip
        exact hj39.use
noncomputable def b_X9_seet {d : Nat} (P : zP d) : zK d := (xlpA 25 47 (wkF 0 [] 47 274877906944 wkE) (fun r0 => (lX9_seet_0 P r0)))
set_option maxRecDepth 100000 in
set_option maxHeartbeats 4000000 in
theorem s_X9_seet {d : Nat} [zGh] (P : zP d) : zSim X_X9_see 1 P 0 (b_X9_seet P) := by
  unfold b_X9_seet
  exact sm_lpA (ci := 9) rfl rfl (by decide) (wkF_ok wkE_ok) (fun G1 r0 hr0 => @slX9_seet_0 d G1 P r0 hr0)
noncomputable def f_X9_seet {d : Nat} : List zV → zH d → zP d → Bool := zfn 1 (b_X9_seet )
theorem m_X9_seet {d : Nat} : zMet (d := d) X_X9_see yX9_see 1 (f_X9_seet ) := zmet_mk (X := X_X9_see) (by decide) rfl rfl (fun P => s_X9_seet P)

noncomputable def hs_X9_see : zH 1 := (show zT 1 from ((25, 63, 0x800000003f800000003e800000003d800000003c800000003b800000003a800000003980000000388000000037800000003680000000358000000034800000003380000000328000000031400000000001000000c90000000002800000002d800000002c800000002b800000002a8000000029800000002880000000278000000026800000002580000000248000000023800000002280000000218000000020800000001f800000001e800000001d800000001c800000001b800000001a8000000019800000001880000000178000000016800000001580000000148000000013800000001280000000118000000010800000000f800000000e800000000d800000000c800000000b800000000a800000000980000000088000000007800000000680000000058000000004800000000380000000028000000001), (0, 200, zun 40 200 4294967296)), (2, (0, 0)))
noncomputable def hs_X9_see_o0 : zH 1 := (show zT 1 from ((25, 63, 0x800000003f800000003e800000003d800000003c800000003b800000003a800000003980000000388000000037800000003680000000358000000034800000003380000000328000000031400000000001000000c90000000002800000002d800000002c800000002b800000002a8000000029800000002880000000278000000026800000002580000000248000000023800000002280000000218000000020800000001f800000001e800000001d800000001c800000001b800000001a8000000019800000001880000000178000000016800000001580000000148000000013800000001280000000118000000010800000000f800000000e800000000d800000000c800000000b800000000a800000000980000000088000000007800000000680000000058000000004800000000380000000028000000001), (0, 200, zun 40 200 4294967296)), (2, (0, 0)))
noncomputable def hs_X9_see_o1 : zH 1 := (show zT 1 from ((25, 63, 0x800000003f800000003e800000003d800000003c800000003b800000003a800000003980000000388000000037800000003680000000358000000034800000003380000000328000000031400000000101000000c90000000002800000002d800000002c800000002b800000002a8000000029800000002880000000278000000026800000002580000000248000000023800000002280000000218000000020800000001f800000001e800000001d800000001c800000001b800000001a8000000019800000001880000000178000000016800000001580000000148000000013800000001280000000118000000010800000000f800000000e800000000d800000000c800000000b800000000a800000000980000000088000000007800000000680000000058000000004800000000380000000028000000001), (0, 200, zun 40 200 4294967296)), (2, (0, 0)))
set_option maxRecDepth 100000 in
theorem ev_X9_see : f_X9_seet [zR 1] hs_X9_see (zrkL [(zI 4294967295, hs_X9_see_o0), (zI 4294967296, hs_X9_see_o1)]) = true := by decide +kernel
noncomputable def g_X9_see {d : Nat} : List zV → zH d → zP d → Bool := zsmyL [(0, 0), (1, 45)] [zR 1] hs_X9_see [(zI 4294967295, hs_X9_see_o0), (zI 4294967296, hs_X9_see_o1)]
theorem mg_X9_see {d : Nat} : zMet (d := d) X_X9_see yX9_see 1 g_X9_see := zMet_smL m_X9_seet ev_X9_see

noncomputable def lX9_failst_38 {d : Nat} (P : zP d) (r38 : zK d) : zK d := (xild 3 (xaldV 0 (xgfI 25 50 (xcmpS tgeR rlGe rhS rlS rhLt (xpI 0 (xzret P)) (xaldV 0 (xgfR 25 51 (xild 3 (xaldV 0 (xgfR 25 52 (xaldV 0 (xgfI 25 53 (xpI 1 (xbin zsubR (xild 3 (xbin zsubR (xalQ 0 (xasQ 0 (fun v => v) (xincR 3 1 r38))))))))))))))))))
set_option maxRecDepth 100000 in
set_option maxHeartbeats 4000000 in
theorem slX9_failst_38 {d : Nat} [zGh] (P : zP d) (r38 : zK d) (hr38 : zSimJ 1 X_X9_fails 1 P 38 r38) : zSim X_X9_fails 1 P 38 (lX9_failst_38 P r38) := by
  unfold lX9_failst_38
  refine sm_iload_n (pc := 38) (n := 3) dX9_fails_38 rfl ?_
  refine sm_aloadV_n (pc := 39) (n := 0) dX9_fails_39 rfl ?_
  refine gf_X9_361 (pc := 40) rfl dX9_fails_40 ?_
  refine sm_icmpS_ge (pc := 43) (tgt := 71) dX9_fails_43 (by decide) ?_ ?_
  · skip
    refine sm_iconst (pc := 71) dX9_fails_71 zc_i_0 ?_
    exact sm_zreturn (pc := 72) dX9_fails_72 rfl
  · skip
    refine sm_aloadV_n (pc := 46) (n := 0) dX9_fails_46 rfl ?_
    refine gf_X9_128 (pc := 47) rfl dX9_fails_47 ?_
    refine sm_iload_n (pc := 50) (n := 3) dX9_fails_50 rfl ?_
    refine sm_aloadV_n (pc := 51) (n := 0) dX9_fails_51 rfl ?_
    refine gf_X9_131 (pc := 52) rfl dX9_fails_52 ?_
    refine sm_aloadV_n (pc := 55) (n := 0) dX9_fails_55 rfl ?_
    refine gf_X9_359 (pc := 56) rfl dX9_fails_56 ?_
    refine sm_iconst (pc := 59) dX9_fails_59 zc_i_1 ?_
    refine sm_isubR (pc := 60) dX9_fails_60 ?_
    refine sm_iload_n (pc := 61) (n := 3) dX9_fails_61 rfl ?_
    refine sm_isubR (pc := 62) dX9_fails_62 ?_
    refine sm_ialoadQ (pc := 63) dX9_fails_63 ?_
    refine sm_iastoreQ (pc := 64) dX9_fails_64 ?_
    refine sm_iincR (pc := 65) (n := 3) dX9_fails_65 zc_i_1 ?_
    refine sm_goto (pc := 68) (tgt := 38) dX9_fails_68 (by decide) ?_
    exact hr38.use
noncomputable def bX9_failst_33 {d : Nat} (P : zP d) : zK d := (xpfI 25 50 (xpI 0 (xist 3 (xloop (fun r38 => (lX9_failst_38 P r38)) 100000))))
set_option maxRecDepth 100000 in
set_option maxHeartbeats 4000000 in
theorem sbX9_failst_33 {d : Nat} [zGh] (P : zP d) : zSim X_X9_fails 1 P 33 (bX9_failst_33 P) := by
  unfold bX9_failst_33
  refine pf_X9_361 (pc := 33) rfl dX9_fails_33 ?_
  refine sm_iconst (pc := 36) dX9_fails_36 zc_i_0 ?_
  refine sm_istore_n (pc := 37) (n := 3) dX9_fails_37 rfl ?_
  exact (sm_loopJ (j := 1) (fun G1 hG1 r38 hr38 => @slX9_failst_38 d G1 P r38 hr38) _).use
noncomputable def b_X9_failst {d : Nat} (P : zP d) : zK d := (xaldV 0 (xgfI 25 48 (xif0S teqR rlEq rhEq rlNe rhNe (xaldV 0 (xild 1 (xpfI 25 48 (xaldV 0 (xild 2 (xpfI 25 49 (xaldV 0 (xild 1 (xpI 1 (xjoin (bX9_failst_33 P) (fun j33 => (xcmpS teqR rlEq rhEq rlNe rhNe (xpI 0 j33) (xaldV 0 (xgfI 25 53 j33)))))))))))))) (xpI 0 (xzret P)))))
set_option maxRecDepth 100000 in
set_option maxHeartbeats 4000000 in
theorem s_X9_failst {d : Nat} [zGh] (P : zP d) : zSim X_X9_fails 1 P 0 (b_X9_failst P) := by
  unfold b_X9_failst
  refine sm_aloadV_n (pc := 0) (n := 0) dX9_fails_0 rfl ?_
  refine gf_X9_356 (pc := 1) rfl dX9_fails_1 ?_
  refine sm_ifS_eq (pc := 4) (tgt := 9) dX9_fails_4 (by decide) ?_ ?_
  · skip
    refine sm_aloadV_n (pc := 9) (n := 0) dX9_fails_9 rfl ?_
    refine sm_iload_n (pc := 10) (n := 1) dX9_fails_10 rfl ?_
    refine pf_X9_356 (pc := 11) rfl dX9_fails_11 ?_
    refine sm_aloadV_n (pc := 14) (n := 0) dX9_fails_14 rfl ?_
    refine sm_iload_n (pc := 15) (n := 2) dX9_fails_15 rfl ?_
    refine pf_X9_124 (pc := 16) rfl dX9_fails_16 ?_
    refine sm_aloadV_n (pc := 19) (n := 0) dX9_fails_19 rfl ?_
    refine sm_iload_n (pc := 20) (n := 1) dX9_fails_20 rfl ?_
    refine sm_iconst (pc := 21) dX9_fails_21 zc_i_1 ?_
    refine sm_joinJ (pc := 22) (pc' := 33) (j := 1) (fun G0 hG0 => @sbX9_failst_33 d G0 P) (fun j33 hj33 => ?_)
    refine sm_icmpS_ne (pc := 22) (tgt := 29) dX9_fails_22 (by decide) ?_ ?_
    · skip
      refine sm_aloadV_n (pc := 29) (n := 0) dX9_fails_29 rfl ?_
      refine gf_X9_359 (pc := 30) rfl dX9_fails_30 ?_
      exact hj33.use
    · skip
      refine sm_iconst (pc := 25) dX9_fails_25 zc_i_0 ?_
      refine sm_goto (pc := 26) (tgt := 33) dX9_fails_26 (by decide) ?_
      exact hj33.use
  · skip
    refine sm_iconst (pc := 7) dX9_fails_7 zc_i_0 ?_
    exact sm_zreturn (pc := 8) dX9_fails_8 rfl
noncomputable def f_X9_failst {d : Nat} : List zV → zH d → zP d → Bool := zfn 4 (b_X9_failst )
theorem m_X9_failst {d : Nat} : zMet (d := d) X_X9_fails yX9_fails 1 (f_X9_failst ) := zmet_mk (X := X_X9_fails) (by decide) rfl rfl (fun P => s_X9_failst P)

noncomputable def b_X9_begint {d : Nat} (P : zP d) : zK d := (xaldV 0 (xcV 25 1 0 0 (zstr g_X9_see) (xpop (xaldV 0 (xgfR 25 52 (xaldV 0 (xgfI 25 53 (xaldV 0 (xgfT 25 47 (xasQ 0 (fun v => v) (xaldV 0 (xdup (xgfI 25 53 (xpI 1 (xbin zaddR (xpfI 25 53 (xvret P)))))))))))))))))
set_option maxRecDepth 100000 in
set_option maxHeartbeats 4000000 in
theorem s_X9_begint {d : Nat} [zGh] (P : zP d) : zSim X_X9_begin 2 P 0 (b_X9_begint P) := by
  unfold b_X9_begint
  refine sm_aloadV_n (pc := 0) (n := 0) dX9_begin_0 rfl ?_
  refine sm_cV (pc := 1) (ci := 9) (n := 1) (mc := 0) (ms := 0) rfl (zMet_str mg_X9_see) (cr_X9_364 (X := X_X9_begin) (fr := 2) (frc := 1) (pc := 1) (mc := 0) (ms := 0) rfl (by decide) dX9_begin_1) ?_
  refine sm_pop (pc := 4) dX9_begin_4 ?_
  refine sm_aloadV_n (pc := 5) (n := 0) dX9_begin_5 rfl ?_
  refine gf_X9_131 (pc := 6) rfl dX9_begin_6 ?_
  refine sm_aloadV_n (pc := 9) (n := 0) dX9_begin_9 rfl ?_
  refine gf_X9_359 (pc := 10) rfl dX9_begin_10 ?_
  refine sm_aloadV_n (pc := 13) (n := 0) dX9_begin_13 rfl ?_
  refine gfT_X9_353 (pc := 14) rfl dX9_begin_14 ?_
  refine sm_iastoreQ (pc := 17) dX9_begin_17 ?_
  refine sm_aloadV_n (pc := 18) (n := 0) dX9_begin_18 rfl ?_
  refine sm_dup (pc := 19) dX9_begin_19 ?_
  refine gf_X9_359 (pc := 20) rfl dX9_begin_20 ?_
  refine sm_iconst (pc := 23) dX9_begin_23 zc_i_1 ?_
  refine sm_iaddR (pc := 24) dX9_begin_24 ?_
  refine pf_X9_359 (pc := 25) rfl dX9_begin_25 ?_
  exact sm_vreturn (pc := 28) dX9_begin_28 rfl
noncomputable def f_X9_begint {d : Nat} : List zV → zH d → zP d → Bool := zfn 1 (b_X9_begint )
theorem m_X9_begint {d : Nat} : zMet (d := d) X_X9_begin yX9_begin 2 (f_X9_begint ) := zmet_mk (X := X_X9_begin) (by decide) rfl rfl (fun P => s_X9_begint P)

noncomputable def bX9_readsNumbert_125 {d : Nat} (P : zP d) : zK d := (xaldV 0 (xpI 1 (xaldV 0 (xgfI 25 55 (xcV 25 3 0 0 (zstr f_X9_failst) (xzret P))))))
set_option maxRecDepth 100000 in
set_option maxHeartbeats 4000000 in
theorem sbX9_readsNumbert_125 {d : Nat} [zGh] (P : zP d) : zSim X_X9_readsNumber 2 P 125 (bX9_readsNumbert_125 P) := by
  unfold bX9_readsNumbert_125
  refine sm_aloadV_n (pc := 125) (n := 0) dX9_readsNumber_125 rfl ?_
  refine sm_iconst (pc := 126) dX9_readsNumber_126 zc_i_1 ?_
  refine sm_aloadV_n (pc := 127) (n := 0) dX9_readsNumber_127 rfl ?_
  refine gf_X9_367 (pc := 128) rfl dX9_readsNumber_128 ?_
  refine sm_cV (pc := 131) (ci := 9) (n := 3) (mc := 0) (ms := 0) rfl (zMet_str m_X9_failst) (cr_X9_377 (X := X_X9_readsNumber) (fr := 2) (frc := 1) (pc := 131) (mc := 0) (ms := 0) rfl (by decide) dX9_readsNumber_131) ?_
  exact sm_zreturn (pc := 134) dX9_readsNumber_134 rfl
noncomputable def bX9_readsNumbert_125_2 {d : Nat} (P : zP d) : zK d := (xaldV 0 (xpI 1 (xaldV 0 (xgfI 25 55 (xcV 25 3 0 0 (zstr f_X9_failst) (xzret P))))))
set_option maxRecDepth 100000 in
set_option maxHeartbeats 4000000 in
theorem sbX9_readsNumbert_125_2 {d : Nat} [zGh] (P : zP d) : zSim X_X9_readsNumber 2 P 125 (bX9_readsNumbert_125_2 P) := by
  unfold bX9_readsNumbert_125_2
  refine sm_aloadV_n (pc := 125) (n := 0) dX9_readsNumber_125 rfl ?_
  refine sm_iconst (pc := 126) dX9_readsNumber_126 zc_i_1 ?_
  refine sm_aloadV_n (pc := 127) (n := 0) dX9_readsNumber_127 rfl ?_
  refine gf_X9_367 (pc := 128) rfl dX9_readsNumber_128 ?_
  refine sm_cV (pc := 131) (ci := 9) (n := 3) (mc := 0) (ms := 0) rfl (zMet_str m_X9_failst) (cr_X9_377 (X := X_X9_readsNumber) (fr := 2) (frc := 1) (pc := 131) (mc := 0) (ms := 0) rfl (by decide) dX9_readsNumber_131) ?_
  exact sm_zreturn (pc := 134) dX9_readsNumber_134 rfl
noncomputable def cX9_readsNumbert_136 {d : Nat} (P : zP d) : zK d := (xzret P)
set_option maxRecDepth 100000 in
set_option maxHeartbeats 4000000 in
theorem scX9_readsNumbert_136 {d : Nat} [zGh] (P : zP d) : zSim X_X9_readsNumber 2 P 136 (cX9_readsNumbert_136 P) := by
  unfold cX9_readsNumbert_136
  exact sm_zreturn (pc := 136) dX9_readsNumber_136 rfl
noncomputable def uX9_readsNumbert_98 {d : Nat} (P : zP d) (r18 : zK d) : zK d := r18
set_option maxRecDepth 100000 in
set_option maxHeartbeats 4000000 in
theorem suX9_readsNumbert_98 {d : Nat} [zGh] (P : zP d) (r18 : zK d) (hr18 : zSimJ 1 X_X9_readsNumber 2 P 18 r18) : zSim X_X9_readsNumber 2 P 98 (uX9_readsNumbert_98 P r18) := by
  unfold uX9_readsNumbert_98
  refine sm_goto (pc := 98) (tgt := 18) dX9_readsNumber_98 (by decide) ?_
  exact hr18.use
noncomputable def bX9_readsNumbert_88 {d : Nat} (P : zP d) (r18 : zK d) : zK d := (xaiT 25 47 (uX9_readsNumbert_98 P r18))
set_option maxRecDepth 100000 in
set_option maxHeartbeats 4000000 in
theorem sbX9_readsNumbert_88 {d : Nat} [zGh] (P : zP d) (r18 : zK d) (hr18 : zSimU 1 X_X9_readsNumber 2 P 18 r18) : zSim X_X9_readsNumber 2 P 88 (bX9_readsNumbert_88 P r18) := by
  unfold bX9_readsNumbert_88
  exact sm_aiT (pc := 88) (ci := 9) (n := 47) (C := RX9) (T := TX9) (N := 63) rfl rfl rfl zc_i_1 inz9 rfl (by decide) wd_1065 rfl dX9_readsNumber_88 rfl dX9_readsNumber_89 dX9_readsNumber_90 dX9_readsNumber_93 dX9_readsNumber_94 (zput (C := RX9) (T := TX9) (N := 63) (ty0 := tyX9) (ty := .int) inz9 tyX9_ok nmX9 rfl (by decide) wd_1065 rfl rfl dX9_readsNumber_95) (fun G2 hg0 hgm => @suX9_readsNumbert_98 d G2 P r18 (hr18.up hg0 hgm))
noncomputable def cX9_readsNumbert_73 {d : Nat} (P : zP d) (j88 : zK d) : zK d := (xgfR 25 45 (xaldV 0 (xgfT 25 47 (xalQ 0 (xbin zaddR (xpI 48 (xbin zsubR (xpfI 25 54 j88))))))))
set_option maxRecDepth 100000 in
set_option maxHeartbeats 4000000 in
theorem scX9_readsNumbert_73 {d : Nat} [zGh] (P : zP d) (j88 : zK d) (hj88 : zSimJ 1 X_X9_readsNumber 2 P 88 j88) : zSim X_X9_readsNumber 2 P 73 (cX9_readsNumbert_73 P j88) := by
  unfold cX9_readsNumbert_73
  refine gf_X9_121 (pc := 73) rfl dX9_readsNumber_73 ?_
  refine sm_aloadV_n (pc := 76) (n := 0) dX9_readsNumber_76 rfl ?_
  refine gfT_X9_353 (pc := 77) rfl dX9_readsNumber_77 ?_
  refine sm_ialoadQ (pc := 80) dX9_readsNumber_80 ?_
  refine sm_iaddR (pc := 81) dX9_readsNumber_81 ?_
  refine sm_bipush (pc := 82) dX9_readsNumber_82 zc_b_48 ?_
  refine sm_isubR (pc := 84) dX9_readsNumber_84 ?_
  refine pf_X9_370 (pc := 85) rfl dX9_readsNumber_85 ?_
  exact hj88.use
noncomputable def lX9_readsNumbert_18 {d : Nat} (P : zP d) (r18 : zK d) : zK d := (xfcT 25 47 46 (xaldV 0 (xgfT 25 47 (xaldV 0 (xgfI 25 55 (xjoin (bX9_readsNumbert_125 P) (fun j125 => (xcmpS teqR rlEq rhEq rlNe rhNe j125 (xaldV 0 (xgfT 25 47 (xaldV 0 (xgfI 25 55 (xbin zsubR (xpI 4 (xcmpS tleR rlS rhLe rlGt rhS (xpI 1 (xzret P)) j125)))))))))))))) (xaldV 0 (xgfR 25 45 (xaldV 0 (xgfT 25 47 (xalQ 0 (xi2lR (xpL 48 (xpL 57 (xcS 3 0 0 (zstr f_X9_isInt) (xif0S teqR rlEq rhEq rlNe rhNe (xaldV 0 (xgfT 25 47 (xaldV 0 (xgfI 25 55 (xjoin (bX9_readsNumbert_125_2 P) (fun j125 => (xcmpS teqR rlEq rhEq rlNe rhNe j125 (xaldV 0 (xgfT 25 47 (xaldV 0 (xgfI 25 55 (xbin zsubR (xpI 4 (xcmpS tleR rlS rhLe rlGt rhS (xpI 1 (cX9_readsNumbert_136 P)) j125)))))))))))))) (xaldV 0 (xgfT 25 47 (xaldV 0 (xgfI 25 55 (xbin zsubR (xpI 5 (xjoin (bX9_readsNumbert_88 P r18) (fun j88 => (xcmpS tgeR rlGe rhS rlS rhLt j88 (xaldV 0 (xpI 10 (xaldV 0 (xgfI 25 54 (xbin zmulR (xaldV 0 (cX9_readsNumbert_73 P j88)))))))))))))))))))))))))))
set_option maxRecDepth 100000 in
set_option maxHeartbeats 4000000 in
theorem slX9_readsNumbert_18 {d : Nat} [zGh] (P : zP d) (r18 : zK d) (hr18 : zSimU 1 X_X9_readsNumber 2 P 18 r18) : zSim X_X9_readsNumber 2 P 18 (lX9_readsNumbert_18 P r18) := by
  unfold lX9_readsNumbert_18
  refine sm_fcT (pc := 18) (tgt := 101) (ci := 9) (n1 := 47) (n2 := 46) (C := RX9) (T := TX9) (N := 63) rfl rfl rfl inz9 rfl (by decide) (by decide) rfl wd_1065 rfl wd_1064 rfl dX9_readsNumber_18 rfl dX9_readsNumber_19 dX9_readsNumber_22 rfl dX9_readsNumber_23 dX9_readsNumber_26 (by decide) ?_ ?_
  · skip
    refine sm_aloadV_n (pc := 101) (n := 0) dX9_readsNumber_101 rfl ?_
    refine gfT_X9_353 (pc := 102) rfl dX9_readsNumber_102 ?_
    refine sm_aloadV_n (pc := 105) (n := 0) dX9_readsNumber_105 rfl ?_
    refine gf_X9_367 (pc := 106) rfl dX9_readsNumber_106 ?_
    refine sm_joinJ (pc := 109) (pc' := 125) (j := 1) (fun G0 hG0 => @sbX9_readsNumbert_125 d G0 P) (fun j125 hj125 => ?_)
    refine sm_icmpS_eq (pc := 109) (tgt := 125) dX9_readsNumber_109 (by decide) ?_ ?_
    · skip
      exact hj125.use
    · skip
      refine sm_aloadV_n (pc := 112) (n := 0) dX9_readsNumber_112 rfl ?_
      refine gfT_X9_353 (pc := 113) rfl dX9_readsNumber_113 ?_
      refine sm_aloadV_n (pc := 116) (n := 0) dX9_readsNumber_116 rfl ?_
      refine gf_X9_367 (pc := 117) rfl dX9_readsNumber_117 ?_
      refine sm_isubR (pc := 120) dX9_readsNumber_120 ?_
      refine sm_iconst (pc := 121) dX9_readsNumber_121 zc_i_4 ?_
      refine sm_icmpS_le (pc := 122) (tgt := 135) dX9_readsNumber_122 (by decide) ?_ ?_
      · skip
        refine sm_iconst (pc := 135) dX9_readsNumber_135 zc_i_1 ?_
        exact sm_zreturn (pc := 136) dX9_readsNumber_136 rfl
      · skip
        exact hj125.use
  · skip
    refine sm_aloadV_n (pc := 29) (n := 0) dX9_readsNumber_29 rfl ?_
    refine gf_X9_121 (pc := 30) rfl dX9_readsNumber_30 ?_
    refine sm_aloadV_n (pc := 33) (n := 0) dX9_readsNumber_33 rfl ?_
    refine gfT_X9_353 (pc := 34) rfl dX9_readsNumber_34 ?_
    refine sm_ialoadQ (pc := 37) dX9_readsNumber_37 ?_
    refine sm_i2lR (pc := 38) dX9_readsNumber_38 ?_
    refine sm_ldc2 (pc := 39) dX9_readsNumber_39 wd_1402 zc_cl_48 ?_
    refine sm_ldc2 (pc := 42) dX9_readsNumber_42 wd_1403 zc_cl_57 ?_
    refine sm_cS (pc := 45) (n := 3) (mc := 0) (ms := 0) (zMet_str m_X9_isInt) (cr_X9_283 (X := X_X9_readsNumber) (fr := 2) (frc := 1) (pc := 45) (mc := 0) (ms := 0) rfl (by decide) dX9_readsNumber_45) ?_
    refine sm_ifS_eq (pc := 48) (tgt := 101) dX9_readsNumber_48 (by decide) ?_ ?_
    · skip
      refine sm_aloadV_n (pc := 101) (n := 0) dX9_readsNumber_101 rfl ?_
      refine gfT_X9_353 (pc := 102) rfl dX9_readsNumber_102 ?_
      refine sm_aloadV_n (pc := 105) (n := 0) dX9_readsNumber_105 rfl ?_
      refine gf_X9_367 (pc := 106) rfl dX9_readsNumber_106 ?_
      refine sm_joinJ (pc := 109) (pc' := 125) (j := 1) (fun G0 hG0 => @sbX9_readsNumbert_125_2 d G0 P) (fun j125 hj125 => ?_)
      refine sm_icmpS_eq (pc := 109) (tgt := 125) dX9_readsNumber_109 (by decide) ?_ ?_
      · skip
        exact hj125.use
      · skip
        refine sm_aloadV_n (pc := 112) (n := 0) dX9_readsNumber_112 rfl ?_
        refine gfT_X9_353 (pc := 113) rfl dX9_readsNumber_113 ?_
        refine sm_aloadV_n (pc := 116) (n := 0) dX9_readsNumber_116 rfl ?_
        refine gf_X9_367 (pc := 117) rfl dX9_readsNumber_117 ?_
        refine sm_isubR (pc := 120) dX9_readsNumber_120 ?_
        refine sm_iconst (pc := 121) dX9_readsNumber_121 zc_i_4 ?_
        refine sm_icmpS_le (pc := 122) (tgt := 135) dX9_readsNumber_122 (by decide) ?_ ?_
        · skip
          refine sm_iconst (pc := 135) dX9_readsNumber_135 zc_i_1 ?_
          exact scX9_readsNumbert_136 P
        · skip
          exact hj125.use
    · skip
      refine sm_aloadV_n (pc := 51) (n := 0) dX9_readsNumber_51 rfl ?_
      refine gfT_X9_353 (pc := 52) rfl dX9_readsNumber_52 ?_
      refine sm_aloadV_n (pc := 55) (n := 0) dX9_readsNumber_55 rfl ?_
      refine gf_X9_367 (pc := 56) rfl dX9_readsNumber_56 ?_
      refine sm_isubR (pc := 59) dX9_readsNumber_59 ?_
      refine sm_iconst (pc := 60) dX9_readsNumber_60 zc_i_5 ?_
      refine sm_joinJ (pc := 61) (pc' := 88) (j := 1) (fun G0 hG0 => @sbX9_readsNumbert_88 d G0 P r18 (hr18.mv hG0 (by decide))) (fun j88 hj88 => ?_)
      refine sm_icmpS_ge (pc := 61) (tgt := 88) dX9_readsNumber_61 (by decide) ?_ ?_
      · skip
        exact hj88.use
      · skip
        refine sm_aloadV_n (pc := 64) (n := 0) dX9_readsNumber_64 rfl ?_
        refine sm_bipush (pc := 65) dX9_readsNumber_65 zc_b_10 ?_
        refine sm_aloadV_n (pc := 67) (n := 0) dX9_readsNumber_67 rfl ?_
        refine gf_X9_370 (pc := 68) rfl dX9_readsNumber_68 ?_
        refine sm_imulR (pc := 71) dX9_readsNumber_71 ?_
        refine sm_aloadV_n (pc := 72) (n := 0) dX9_readsNumber_72 rfl ?_
        exact scX9_readsNumbert_73 P j88 hj88
noncomputable def b_X9_readsNumbert {d : Nat} (P : zP d) : zK d := (xaldV 0 (xcV 25 1 0 0 (zstr g_X9_see) (xpop (xaldV 0 (xaldV 0 (xgfT 25 47 (xpfI 25 55 (xaldV 0 (xpI 0 (xpfI 25 54 (xlpA 25 47 (wkF 0 [] 47 274877906944 (wkF 0 [] 54 4294967296 wkE)) (fun r18 => (lX9_readsNumbert_18 P r18)))))))))))))
set_option maxRecDepth 100000 in
set_option maxHeartbeats 4000000 in
theorem s_X9_readsNumbert {d : Nat} [zGh] (P : zP d) : zSim X_X9_readsNumber 2 P 0 (b_X9_readsNumbert P) := by
  unfold b_X9_readsNumbert
  refine sm_aloadV_n (pc := 0) (n := 0) dX9_readsNumber_0 rfl ?_
  refine sm_cV (pc := 1) (ci := 9) (n := 1) (mc := 0) (ms := 0) rfl (zMet_str mg_X9_see) (cr_X9_364 (X := X_X9_readsNumber) (fr := 2) (frc := 1) (pc := 1) (mc := 0) (ms := 0) rfl (by decide) dX9_readsNumber_1) ?_
  refine sm_pop (pc := 4) dX9_readsNumber_4 ?_
  refine sm_aloadV_n (pc := 5) (n := 0) dX9_readsNumber_5 rfl ?_
  refine sm_aloadV_n (pc := 6) (n := 0) dX9_readsNumber_6 rfl ?_
  refine gfT_X9_353 (pc := 7) rfl dX9_readsNumber_7 ?_
  refine pf_X9_367 (pc := 10) rfl dX9_readsNumber_10 ?_
  refine sm_aloadV_n (pc := 13) (n := 0) dX9_readsNumber_13 rfl ?_
  refine sm_iconst (pc := 14) dX9_readsNumber_14 zc_i_0 ?_
  refine pf_X9_370 (pc := 15) rfl dX9_readsNumber_15 ?_
  exact sm_lpA (ci := 9) rfl rfl (by decide) (wkF_ok (wkF_ok wkE_ok)) (fun G1 r18 hr18 => @slX9_readsNumbert_18 d G1 P r18 hr18)
noncomputable def f_X9_readsNumbert {d : Nat} : List zV → zH d → zP d → Bool := zfn 1 (b_X9_readsNumbert )
theorem m_X9_readsNumbert {d : Nat} : zMet (d := d) X_X9_readsNumber yX9_readsNumber 2 (f_X9_readsNumbert ) := zmet_mk (X := X_X9_readsNumber) (by decide) rfl rfl (fun P => s_X9_readsNumbert P)

noncomputable def hs_X9_readsNumber : zH 1 := (show zT 1 from ((25, 63, 0x800000003f800000003e800000003d800000003c800000003b800000003a800000003901000000000100000000800000003680000000358000000034010000001501000000000100000000400000000001000000c90000000002800000002d800000002c800000002b800000002a8000000029800000002880000000278000000026800000002580000000248000000023800000002280000000218000000020800000001f800000001e800000001d800000001c800000001b800000001a8000000019800000001880000000178000000016800000001580000000148000000013800000001280000000118000000010800000000f800000000e800000000d800000000c800000000b800000000a800000000980000000088000000007800000000680000000058000000004800000000380000000028000000001), (0, 200, zun 40 200 4294967296)), (2, (0, 0)))
noncomputable def hs_X9_readsNumber_o0 : zH 1 := (show zT 1 from ((25, 63, 0x800000003f800000003e800000003d800000003c800000003b800000003a800000003901000000c90100000000800000003680000000358000000034010000001501000000000100000000400000000001000000c90000000002800000002d800000002c800000002b800000002a8000000029800000002880000000278000000026800000002580000000248000000023800000002280000000218000000020800000001f800000001e800000001d800000001c800000001b800000001a8000000019800000001880000000178000000016800000001580000000148000000013800000001280000000118000000010800000000f800000000e800000000d800000000c800000000b800000000a800000000980000000088000000007800000000680000000058000000004800000000380000000028000000001), (0, 200, zun 40 200 4294967296)), (2, (0, 0)))
noncomputable def hs_X9_readsNumber_o1 : zH 1 := (show zT 1 from ((25, 63, 0x800000003f800000003e800000003d800000003c800000003b800000003a800000003901000000c90100000000800000003680000000358000000034010000001501000000000100000000400000000001000000c90000000002800000002d800000002c800000002b800000002a8000000029800000002880000000278000000026800000002580000000248000000023800000002280000000218000000020800000001f800000001e800000001d800000001c800000001b800000001a8000000019800000001880000000178000000016800000001580000000148000000013800000001280000000118000000010800000000f800000000e800000000d800000000c800000000b800000000a800000000980000000088000000007800000000680000000058000000004800000000380000000028000000001), (0, 200, zun 40 200 4294967296)), (2, (0, 0)))
set_option maxRecDepth 100000 in
theorem ev_X9_readsNumber : f_X9_readsNumbert [zR 1] hs_X9_readsNumber (zrkL [(zI 0, hs_X9_readsNumber_o0), (zI 1, hs_X9_readsNumber_o1)]) = true := by decide +kernel
noncomputable def g_X9_readsNumber {d : Nat} : List zV → zH d → zP d → Bool := zsmyL [(0, 0), (1, 45)] [zR 1] hs_X9_readsNumber [(zI 0, hs_X9_readsNumber_o0), (zI 1, hs_X9_readsNumber_o1)]
theorem mg_X9_readsNumber {d : Nat} : zMet (d := d) X_X9_readsNumber yX9_readsNumber 2 g_X9_readsNumber := zMet_smL m_X9_readsNumbert ev_X9_readsNumber

noncomputable def lX9_isListedt_17 {d : Nat} (P : zP d) (r17 : zK d) : zK d := (xild 2 (xaldV 0 (xgfT 25 61 (xcmpS tgeR rlGe rhS rlS rhLt (xpI 1 (xzret P)) (xaldV 0 (xgfR 25 60 (xild 2 (xalQ 0 (xaldV 0 (xild 1 (xild 2 (xcV 25 3 0 0 (zstr f_X9_partOft) (xcmpS teqR rlEq rhEq rlNe rhNe (xincR 2 1 r17) (xpI 0 (xzret P)))))))))))))))
set_option maxRecDepth 100000 in
set_option maxHeartbeats 4000000 in
theorem slX9_isListedt_17 {d : Nat} [zGh] (P : zP d) (r17 : zK d) (hr17 : zSimJ 1 X_X9_isListed 2 P 17 r17) : zSim X_X9_isListed 2 P 17 (lX9_isListedt_17 P r17) := by
  unfold lX9_isListedt_17
  refine sm_iload_n (pc := 17) (n := 2) dX9_isListed_17 rfl ?_
  refine sm_aloadV_n (pc := 18) (n := 0) dX9_isListed_18 rfl ?_
  refine gfT_X9_380 (pc := 19) rfl dX9_isListed_19 ?_
  refine sm_icmpS_ge (pc := 22) (tgt := 48) dX9_isListed_22 (by decide) ?_ ?_
  · skip
    refine sm_iconst (pc := 48) dX9_isListed_48 zc_i_1 ?_
    exact sm_zreturn (pc := 49) dX9_isListed_49 rfl
  · skip
    refine sm_aloadV_n (pc := 25) (n := 0) dX9_isListed_25 rfl ?_
    refine gf_X9_143 (pc := 26) rfl dX9_isListed_26 ?_
    refine sm_iload_n (pc := 29) (n := 2) dX9_isListed_29 rfl ?_
    refine sm_ialoadQ (pc := 30) dX9_isListed_30 ?_
    refine sm_aloadV_n (pc := 31) (n := 0) dX9_isListed_31 rfl ?_
    refine sm_iload_n (pc := 32) (n := 1) dX9_isListed_32 rfl ?_
    refine sm_iload_n (pc := 33) (n := 2) dX9_isListed_33 rfl ?_
    refine sm_cV (pc := 34) (ci := 9) (n := 3) (mc := 0) (ms := 0) rfl (zMet_str m_X9_partOft) (cr_X9_175 (X := X_X9_isListed) (fr := 2) (frc := 1) (pc := 34) (mc := 0) (ms := 0) rfl (by decide) dX9_isListed_34) ?_
    refine sm_icmpS_eq (pc := 37) (tgt := 42) dX9_isListed_37 (by decide) ?_ ?_
    · skip
      refine sm_iincR (pc := 42) (n := 2) dX9_isListed_42 zc_i_1 ?_
      refine sm_goto (pc := 45) (tgt := 17) dX9_isListed_45 (by decide) ?_
      exact hr17.use
    · skip
      refine sm_iconst (pc := 40) dX9_isListed_40 zc_i_0 ?_
      exact sm_zreturn (pc := 41) dX9_isListed_41 rfl
noncomputable def b_X9_isListedt {d : Nat} (P : zP d) : zK d := (xaldV 0 (xgfT 25 61 (xaldV 0 (xgfR 25 4 (xild 1 (xalQ 0 (xcmpS teqR rlEq rhEq rlNe rhNe (xpI 0 (xist 2 (xloop (fun r17 => (lX9_isListedt_17 P r17)) 100000))) (xpI 0 (xzret P)))))))))
set_option maxRecDepth 100000 in
set_option maxHeartbeats 4000000 in
theorem s_X9_isListedt {d : Nat} [zGh] (P : zP d) : zSim X_X9_isListed 2 P 0 (b_X9_isListedt P) := by
  unfold b_X9_isListedt
  refine sm_aloadV_n (pc := 0) (n := 0) dX9_isListed_0 rfl ?_
  refine gfT_X9_380 (pc := 1) rfl dX9_isListed_1 ?_
  refine sm_aloadV_n (pc := 4) (n := 0) dX9_isListed_4 rfl ?_
  refine gf_X9_13 (pc := 5) rfl dX9_isListed_5 ?_
  refine sm_iload_n (pc := 8) (n := 1) dX9_isListed_8 rfl ?_
  refine sm_ialoadQ (pc := 9) dX9_isListed_9 ?_
  refine sm_icmpS_eq (pc := 10) (tgt := 15) dX9_isListed_10 (by decide) ?_ ?_
  · skip
    refine sm_iconst (pc := 15) dX9_isListed_15 zc_i_0 ?_
    refine sm_istore_n (pc := 16) (n := 2) dX9_isListed_16 rfl ?_
    exact (sm_loopJ (j := 1) (fun G1 hG1 r17 hr17 => @slX9_isListedt_17 d G1 P r17 hr17) _).use
  · skip
    refine sm_iconst (pc := 13) dX9_isListed_13 zc_i_0 ?_
    exact sm_zreturn (pc := 14) dX9_isListed_14 rfl
noncomputable def f_X9_isListedt {d : Nat} : List zV → zH d → zP d → Bool := zfn 3 (b_X9_isListedt )
theorem m_X9_isListedt {d : Nat} : zMet (d := d) X_X9_isListed yX9_isListed 2 (f_X9_isListedt ) := zmet_mk (X := X_X9_isListed) (by decide) rfl rfl (fun P => s_X9_isListedt P)

noncomputable def lX9_readsPartt_122 {d : Nat} (P : zP d) (r122 : zK d) : zK d := (xild 4 (xaldV 0 (xgfI 25 2 (xcmpS tgeR rlGe rhS rlS rhLt (xaldV 0 (xpI 2 (xild 1 (xcV 25 3 0 0 (zstr f_X9_failst) (xpop (xpI 4294967295 (xiret P))))))) (xaldV 0 (xild 4 (xcV 25 2 0 0 (zstr f_X9_isListedt) (xif0S teqR rlEq rhEq rlNe rhNe (xincR 4 1 r122) (xild 4 (xiret P))))))))))
set_option maxRecDepth 100000 in
set_option maxHeartbeats 4000000 in
theorem slX9_readsPartt_122 {d : Nat} [zGh] (P : zP d) (r122 : zK d) (hr122 : zSimJ 2 X_X9_readsPart 3 P 122 r122) : zSim X_X9_readsPart 3 P 122 (lX9_readsPartt_122 P r122) := by
  unfold lX9_readsPartt_122
  refine sm_iload (pc := 122) (n := 4) dX9_readsPart_122 ?_
  refine sm_aloadV_n (pc := 124) (n := 0) dX9_readsPart_124 rfl ?_
  refine gf_X9_153 (pc := 125) rfl dX9_readsPart_125 ?_
  refine sm_icmpS_ge (pc := 128) (tgt := 149) dX9_readsPart_128 (by decide) ?_ ?_
  · skip
    refine sm_aloadV_n (pc := 149) (n := 0) dX9_readsPart_149 rfl ?_
    refine sm_iconst (pc := 150) dX9_readsPart_150 zc_i_2 ?_
    refine sm_iload_n (pc := 151) (n := 1) dX9_readsPart_151 rfl ?_
    refine sm_cV (pc := 152) (ci := 9) (n := 3) (mc := 0) (ms := 0) rfl (zMet_str m_X9_failst) (cr_X9_377 (X := X_X9_readsPart) (fr := 3) (frc := 1) (pc := 152) (mc := 0) (ms := 0) rfl (by decide) dX9_readsPart_152) ?_
    refine sm_pop (pc := 155) dX9_readsPart_155 ?_
    refine sm_iconst (pc := 156) dX9_readsPart_156 zc_i_m1 ?_
    exact sm_ireturn (pc := 157) dX9_readsPart_157 rfl
  · skip
    refine sm_aloadV_n (pc := 131) (n := 0) dX9_readsPart_131 rfl ?_
    refine sm_iload (pc := 132) (n := 4) dX9_readsPart_132 ?_
    refine sm_cV (pc := 134) (ci := 9) (n := 2) (mc := 0) (ms := 0) rfl (zMet_str m_X9_isListedt) (cr_X9_387 (X := X_X9_readsPart) (fr := 3) (frc := 2) (pc := 134) (mc := 0) (ms := 0) rfl (by decide) dX9_readsPart_134) ?_
    refine sm_ifS_eq (pc := 137) (tgt := 143) dX9_readsPart_137 (by decide) ?_ ?_
    · skip
      refine sm_iincR (pc := 143) (n := 4) dX9_readsPart_143 zc_i_1 ?_
      refine sm_goto (pc := 146) (tgt := 122) dX9_readsPart_146 (by decide) ?_
      exact hr122.use
    · skip
      refine sm_iload (pc := 140) (n := 4) dX9_readsPart_140 ?_
      exact sm_ireturn (pc := 142) dX9_readsPart_142 rfl
noncomputable def bX9_readsPartt_110 {d : Nat} (P : zP d) (r24 : zK d) : zK d := (xist 3 r24)
set_option maxRecDepth 100000 in
set_option maxHeartbeats 4000000 in
theorem sbX9_readsPartt_110 {d : Nat} [zGh] (P : zP d) (r24 : zK d) (hr24 : zSimJ 2 X_X9_readsPart 3 P 24 r24) : zSim X_X9_readsPart 3 P 110 (bX9_readsPartt_110 P r24) := by
  unfold bX9_readsPartt_110
  refine sm_istore_n (pc := 110) (n := 3) dX9_readsPart_110 rfl ?_
  refine sm_goto (pc := 111) (tgt := 24) dX9_readsPart_111 (by decide) ?_
  exact hr24.use
noncomputable def uX9_readsPartt_98 {d : Nat} (P : zP d) (r24 : zK d) : zK d := (xild 4 (xpI 44 (xjoin (bX9_readsPartt_110 P r24) (fun j110 => (xcmpS teqR rlEq rhEq rlNe rhNe (xpI 1 j110) (xpI 0 j110))))))
set_option maxRecDepth 100000 in
set_option maxHeartbeats 4000000 in
theorem suX9_readsPartt_98 {d : Nat} [zGh] (P : zP d) (r24 : zK d) (hr24 : zSimJ 2 X_X9_readsPart 3 P 24 r24) : zSim X_X9_readsPart 3 P 98 (uX9_readsPartt_98 P r24) := by
  unfold uX9_readsPartt_98
  refine sm_iload (pc := 98) (n := 4) dX9_readsPart_98 ?_
  refine sm_bipush (pc := 100) dX9_readsPart_100 zc_b_44 ?_
  refine sm_joinJ (pc := 102) (pc' := 110) (j := 2) (fun G0 hG0 => @sbX9_readsPartt_110 d G0 P r24 (hr24.mv hG0 (by decide))) (fun j110 hj110 => ?_)
  refine sm_icmpS_ne (pc := 102) (tgt := 109) dX9_readsPart_102 (by decide) ?_ ?_
  · skip
    refine sm_iconst (pc := 109) dX9_readsPart_109 zc_i_0 ?_
    exact hj110.use
  · skip
    refine sm_iconst (pc := 105) dX9_readsPart_105 zc_i_1 ?_
    refine sm_goto (pc := 106) (tgt := 110) dX9_readsPart_106 (by decide) ?_
    exact hj110.use
noncomputable def bX9_readsPartt_88 {d : Nat} (P : zP d) (r24 : zK d) : zK d := (xaiT 25 47 (uX9_readsPartt_98 P r24))
set_option maxRecDepth 100000 in
set_option maxHeartbeats 4000000 in
theorem sbX9_readsPartt_88 {d : Nat} [zGh] (P : zP d) (r24 : zK d) (hr24 : zSimU 2 X_X9_readsPart 3 P 24 r24) : zSim X_X9_readsPart 3 P 88 (bX9_readsPartt_88 P r24) := by
  unfold bX9_readsPartt_88
  exact sm_aiT (pc := 88) (ci := 9) (n := 47) (C := RX9) (T := TX9) (N := 63) rfl rfl rfl zc_i_1 inz9 rfl (by decide) wd_1065 rfl dX9_readsPart_88 rfl dX9_readsPart_89 dX9_readsPart_90 dX9_readsPart_93 dX9_readsPart_94 (zput (C := RX9) (T := TX9) (N := 63) (ty0 := tyX9) (ty := .int) inz9 tyX9_ok nmX9 rfl (by decide) wd_1065 rfl rfl dX9_readsPart_95) (fun G2 hg0 hgm => @suX9_readsPartt_98 d G2 P r24 (hr24.up hg0 hgm))
noncomputable def bX9_readsPartt_53 {d : Nat} (P : zP d) (r24 : zK d) : zK d := (xincR 2 1 (xaldV 0 (xcV 25 1 0 0 (zstr g_X9_see) (xist 4 (xild 4 (xpI 44 (xjoin (bX9_readsPartt_88 P r24) (fun j88 => (xcmpS teqR rlEq rhEq rlNe rhNe j88 (xild 4 (xpI 93 (xcmpS teqR rlEq rhEq rlNe rhNe j88 (xaldV 0 (xpI 1 (xaldV 0 (xgfT 25 47 (xcV 25 3 0 0 (zstr f_X9_failst) (xpop (xpI 4294967295 (xiret P))))))))))))))))))))
set_option maxRecDepth 100000 in
set_option maxHeartbeats 4000000 in
theorem sbX9_readsPartt_53 {d : Nat} [zGh] (P : zP d) (r24 : zK d) (hr24 : zSimU 2 X_X9_readsPart 3 P 24 r24) : zSim X_X9_readsPart 3 P 53 (bX9_readsPartt_53 P r24) := by
  unfold bX9_readsPartt_53
  refine sm_iincR (pc := 53) (n := 2) dX9_readsPart_53 zc_i_1 ?_
  refine sm_aloadV_n (pc := 56) (n := 0) dX9_readsPart_56 rfl ?_
  refine sm_cV (pc := 57) (ci := 9) (n := 1) (mc := 0) (ms := 0) rfl (zMet_str mg_X9_see) (cr_X9_364 (X := X_X9_readsPart) (fr := 3) (frc := 1) (pc := 57) (mc := 0) (ms := 0) rfl (by decide) dX9_readsPart_57) ?_
  refine sm_istore (pc := 60) (n := 4) dX9_readsPart_60 ?_
  refine sm_iload (pc := 62) (n := 4) dX9_readsPart_62 ?_
  refine sm_bipush (pc := 64) dX9_readsPart_64 zc_b_44 ?_
  refine sm_joinJ (pc := 66) (pc' := 88) (j := 2) (fun G0 hG0 => @sbX9_readsPartt_88 d G0 P r24 (hr24.mv hG0 (by decide))) (fun j88 hj88 => ?_)
  refine sm_icmpS_eq (pc := 66) (tgt := 88) dX9_readsPart_66 (by decide) ?_ ?_
  · skip
    exact hj88.use
  · skip
    refine sm_iload (pc := 69) (n := 4) dX9_readsPart_69 ?_
    refine sm_bipush (pc := 71) dX9_readsPart_71 zc_b_93 ?_
    refine sm_icmpS_eq (pc := 73) (tgt := 88) dX9_readsPart_73 (by decide) ?_ ?_
    · skip
      exact hj88.use
    · skip
      refine sm_aloadV_n (pc := 76) (n := 0) dX9_readsPart_76 rfl ?_
      refine sm_iconst (pc := 77) dX9_readsPart_77 zc_i_1 ?_
      refine sm_aloadV_n (pc := 78) (n := 0) dX9_readsPart_78 rfl ?_
      refine gfT_X9_353 (pc := 79) rfl dX9_readsPart_79 ?_
      refine sm_cV (pc := 82) (ci := 9) (n := 3) (mc := 0) (ms := 0) rfl (zMet_str m_X9_failst) (cr_X9_377 (X := X_X9_readsPart) (fr := 3) (frc := 1) (pc := 82) (mc := 0) (ms := 0) rfl (by decide) dX9_readsPart_82) ?_
      refine sm_pop (pc := 85) dX9_readsPart_85 ?_
      refine sm_iconst (pc := 86) dX9_readsPart_86 zc_i_m1 ?_
      exact sm_ireturn (pc := 87) dX9_readsPart_87 rfl
noncomputable def lX9_readsPartt_24 {d : Nat} (P : zP d) (r24 : zK d) : zK d := (xild 3 (xif0S teqR rlEq rhEq rlNe rhNe (xcutL 2 7 (xaldV 0 (xild 2 (xpfT 25 61 (xpI 0 (xist 4 (xloop (fun r122 => (lX9_readsPartt_122 P r122)) 100000))))))) (xaldV 0 (xcV 25 1 0 0 (zstr g_X9_readsNumber) (xif0S teqR rlEq rhEq rlNe rhNe (xpI 4294967295 (xiret P)) (xild 2 (xpI 6 (xjoin (bX9_readsPartt_53 P r24) (fun j53 => (xcmpS tgeR rlGe rhS rlS rhLt j53 (xaldV 0 (xgfR 25 60 (xild 2 (xaldV 0 (xgfI 25 54 (xasQ 0 (fun v => v) j53))))))))))))))))
set_option maxRecDepth 100000 in
set_option maxHeartbeats 4000000 in
theorem slX9_readsPartt_24 {d : Nat} [zGh] (P : zP d) (r24 : zK d) (hr24 : zSimU 2 X_X9_readsPart 3 P 24 r24) : zSim X_X9_readsPart 3 P 24 (lX9_readsPartt_24 P r24) := by
  unfold lX9_readsPartt_24
  refine sm_iload_n (pc := 24) (n := 3) dX9_readsPart_24 rfl ?_
  refine sm_ifS_eq (pc := 25) (tgt := 114) dX9_readsPart_25 (by decide) ?_ ?_
  · skip
    refine sm_cutL (i := 2) (m0 := 7) ?_
    refine sm_aloadV_n (pc := 114) (n := 0) dX9_readsPart_114 rfl ?_
    refine sm_iload_n (pc := 115) (n := 2) dX9_readsPart_115 rfl ?_
    refine pfT_X9_380 (pc := 116) rfl dX9_readsPart_116 ?_
    refine sm_iconst (pc := 119) dX9_readsPart_119 zc_i_0 ?_
    refine sm_istore (pc := 120) (n := 4) dX9_readsPart_120 ?_
    exact (sm_loopJ (j := 2) (fun G1 hG1 r122 hr122 => @slX9_readsPartt_122 d G1 P r122 hr122) _).use
  · skip
    refine sm_aloadV_n (pc := 28) (n := 0) dX9_readsPart_28 rfl ?_
    refine sm_cV (pc := 29) (ci := 9) (n := 1) (mc := 0) (ms := 0) rfl (zMet_str mg_X9_readsNumber) (cr_X9_383 (X := X_X9_readsPart) (fr := 3) (frc := 2) (pc := 29) (mc := 0) (ms := 0) rfl (by decide) dX9_readsPart_29) ?_
    refine sm_ifS_ne (pc := 32) (tgt := 37) dX9_readsPart_32 (by decide) ?_ ?_
    · skip
      refine sm_iload_n (pc := 37) (n := 2) dX9_readsPart_37 rfl ?_
      refine sm_bipush (pc := 38) dX9_readsPart_38 zc_b_6 ?_
      refine sm_joinJ (pc := 40) (pc' := 53) (j := 2) (fun G0 hG0 => @sbX9_readsPartt_53 d G0 P r24 (hr24.mv hG0 (by decide))) (fun j53 hj53 => ?_)
      refine sm_icmpS_ge (pc := 40) (tgt := 53) dX9_readsPart_40 (by decide) ?_ ?_
      · skip
        exact hj53.use
      · skip
        refine sm_aloadV_n (pc := 43) (n := 0) dX9_readsPart_43 rfl ?_
        refine gf_X9_143 (pc := 44) rfl dX9_readsPart_44 ?_
        refine sm_iload_n (pc := 47) (n := 2) dX9_readsPart_47 rfl ?_
        refine sm_aloadV_n (pc := 48) (n := 0) dX9_readsPart_48 rfl ?_
        refine gf_X9_370 (pc := 49) rfl dX9_readsPart_49 ?_
        refine sm_iastoreQ (pc := 52) dX9_readsPart_52 ?_
        exact hj53.use
    · skip
      refine sm_iconst (pc := 35) dX9_readsPart_35 zc_i_m1 ?_
      exact sm_ireturn (pc := 36) dX9_readsPart_36 rfl
noncomputable def b_X9_readsPartt {d : Nat} (P : zP d) : zK d := (xaldV 0 (xgfT 25 47 (xist 1 (xai 25 47 (xaldV 0 (xpI 0 (xpfI 25 61 (xpI 0 (xist 2 (xpI 1 (xist 3 (xlpS 2 1 25 47 (wkF 0 [] 47 274877906944 (wkL 3 4294967298 (wkU 4 (wkF 0 [] 48 4294967296 (wkF 0 [] 49 4294967296 (wkF 0 [] 54 4294967296 (wkF 0 [] 55 4294967296 (wkF 0 [] 50 4294967317 (wkF 0 [] 61 4294967296 (wkA 0 [60] 4294967296 (wkA 0 [51] 4294967296 wkE))))))))))) (fun r24 => (lX9_readsPartt_24 P r24))))))))))))))
set_option maxRecDepth 100000 in
set_option maxHeartbeats 4000000 in
theorem s_X9_readsPartt {d : Nat} [zGh] (P : zP d) : zSim X_X9_readsPart 3 P 0 (b_X9_readsPartt P) := by
  unfold b_X9_readsPartt
  refine sm_aloadV_n (pc := 0) (n := 0) dX9_readsPart_0 rfl ?_
  refine gfT_X9_353 (pc := 1) rfl dX9_readsPart_1 ?_
  refine sm_istore_n (pc := 4) (n := 1) dX9_readsPart_4 rfl ?_
  refine sm_ai (pc := 5) (ci := 9) (n := 47) (C := RX9) (T := TX9) (N := 63) rfl rfl rfl zc_i_1 inz9 rfl (by decide) wd_1065 rfl dX9_readsPart_5 rfl dX9_readsPart_6 dX9_readsPart_7 dX9_readsPart_10 dX9_readsPart_11 (zput (C := RX9) (T := TX9) (N := 63) (ty0 := tyX9) (ty := .int) inz9 tyX9_ok nmX9 rfl (by decide) wd_1065 rfl rfl dX9_readsPart_12) ?_
  refine sm_aloadV_n (pc := 15) (n := 0) dX9_readsPart_15 rfl ?_
  refine sm_iconst (pc := 16) dX9_readsPart_16 zc_i_0 ?_
  refine pf_X9_380 (pc := 17) rfl dX9_readsPart_17 ?_
  refine sm_iconst (pc := 20) dX9_readsPart_20 zc_i_0 ?_
  refine sm_istore_n (pc := 21) (n := 2) dX9_readsPart_21 rfl ?_
  refine sm_iconst (pc := 22) dX9_readsPart_22 zc_i_1 ?_
  refine sm_istore_n (pc := 23) (n := 3) dX9_readsPart_23 rfl ?_
  exact sm_lpS (ci := 9) (i := 2) (j := 1) (by decide) (by decide) rfl rfl (by decide) (wkF_ok (wkL_ok (wkU_ok (wkF_ok (wkF_ok (wkF_ok (wkF_ok (wkF_ok (wkF_ok (wkA_ok (wkA_ok wkE_ok))))))))))) (fun G1 r24 hr24 => @slX9_readsPartt_24 d G1 P r24 hr24)
noncomputable def f_X9_readsPartt {d : Nat} : List zV → zH d → zP d → Bool := zfn 5 (b_X9_readsPartt )
theorem m_X9_readsPartt {d : Nat} : zMet (d := d) X_X9_readsPart yX9_readsPart 3 (f_X9_readsPartt ) := zmet_mk (X := X_X9_readsPart) (by decide) rfl rfl (fun P => s_X9_readsPartt P)

noncomputable def lX9_areNeart_2 {d : Nat} (P : zP d) (r2 : zK d) : zK d := (xild 2 (xaldV 0 (xgfI 25 2 (xcmpS tgeR rlGe rhS rlS rhLt (xpI 1 (xzret P)) (xaldV 1 (xpI 11 (xaldV 0 (xgfI 25 59 (xbin zmulR (xild 2 (xbin zaddR (xlal (xpL 18446743073709551616 (xpL 1000000000000 (xcS 3 0 0 (zstr f_X9_isInt) (xif0S teqR rlEq rhEq rlNe rhNe (xpI 0 (xzret P)) (xincR 2 1 r2)))))))))))))))))
set_option maxRecDepth 100000 in
set_option maxHeartbeats 4000000 in
theorem slX9_areNeart_2 {d : Nat} [zGh] (P : zP d) (r2 : zK d) (hr2 : zSimJ 1 X_X9_areNear 2 P 2 r2) : zSim X_X9_areNear 2 P 2 (lX9_areNeart_2 P r2) := by
  unfold lX9_areNeart_2
  refine sm_iload_n (pc := 2) (n := 2) dX9_areNear_2 rfl ?_
  refine sm_aloadV_n (pc := 3) (n := 0) dX9_areNear_3 rfl ?_
  refine gf_X9_153 (pc := 4) rfl dX9_areNear_4 ?_
  refine sm_icmpS_ge (pc := 7) (tgt := 41) dX9_areNear_7 (by decide) ?_ ?_
  · skip
    refine sm_iconst (pc := 41) dX9_areNear_41 zc_i_1 ?_
    exact sm_zreturn (pc := 42) dX9_areNear_42 rfl
  · skip
    refine sm_aloadV_n (pc := 10) (n := 1) dX9_areNear_10 rfl ?_
    refine sm_bipush (pc := 11) dX9_areNear_11 zc_b_11 ?_
    refine sm_aloadV_n (pc := 13) (n := 0) dX9_areNear_13 rfl ?_
    refine gf_X9_396 (pc := 14) rfl dX9_areNear_14 ?_
    refine sm_imulR (pc := 17) dX9_areNear_17 ?_
    refine sm_iload_n (pc := 18) (n := 2) dX9_areNear_18 rfl ?_
    refine sm_iaddR (pc := 19) dX9_areNear_19 ?_
    refine sm_laload (pc := 20) dX9_areNear_20 ?_
    refine sm_ldc2 (pc := 21) dX9_areNear_21 wd_1422 zc_cl_m1000000000000 ?_
    refine sm_ldc2 (pc := 24) dX9_areNear_24 wd_1417 zc_cl_1000000000000 ?_
    refine sm_cS (pc := 27) (n := 3) (mc := 0) (ms := 0) (zMet_str m_X9_isInt) (cr_X9_283 (X := X_X9_areNear) (fr := 2) (frc := 1) (pc := 27) (mc := 0) (ms := 0) rfl (by decide) dX9_areNear_27) ?_
    refine sm_ifS_ne (pc := 30) (tgt := 35) dX9_areNear_30 (by decide) ?_ ?_
    · skip
      refine sm_iincR (pc := 35) (n := 2) dX9_areNear_35 zc_i_1 ?_
      refine sm_goto (pc := 38) (tgt := 2) dX9_areNear_38 (by decide) ?_
      exact hr2.use
    · skip
      refine sm_iconst (pc := 33) dX9_areNear_33 zc_i_0 ?_
      exact sm_zreturn (pc := 34) dX9_areNear_34 rfl
noncomputable def b_X9_areNeart {d : Nat} (P : zP d) : zK d := (xpI 0 (xist 2 (xloop (fun r2 => (lX9_areNeart_2 P r2)) 100000)))
set_option maxRecDepth 100000 in
set_option maxHeartbeats 4000000 in
theorem s_X9_areNeart {d : Nat} [zGh] (P : zP d) : zSim X_X9_areNear 2 P 0 (b_X9_areNeart P) := by
  unfold b_X9_areNeart
  refine sm_iconst (pc := 0) dX9_areNear_0 zc_i_0 ?_
  refine sm_istore_n (pc := 1) (n := 2) dX9_areNear_1 rfl ?_
  exact (sm_loopJ (j := 1) (fun G1 hG1 r2 hr2 => @slX9_areNeart_2 d G1 P r2 hr2) _).use
noncomputable def f_X9_areNeart {d : Nat} : List zV → zH d → zP d → Bool := zfn 3 (b_X9_areNeart )
theorem m_X9_areNeart {d : Nat} : zMet (d := d) X_X9_areNear yX9_areNear 2 (f_X9_areNeart ) := zmet_mk (X := X_X9_areNear) (by decide) rfl rfl (fun P => s_X9_areNeart P)

noncomputable def bX9_fillingst_94 {d : Nat} (self : List zV → zH d → zP d → Bool) (P : zP d) (r18 : zK d) : zK d := (xincR 5 1 r18)
set_option maxRecDepth 100000 in
set_option maxHeartbeats 4000000 in
theorem sbX9_fillingst_94 {d : Nat} [zGh] (n : Nat) (self : List zV → zH d → zP d → Bool) (hself : zMet X_X9_fillings yX9_fillings (1 + n) self) (P : zP d) (r18 : zK d) (hr18 : zSimJ 1 X_X9_fillings (1 + (n + 1)) P 18 r18) : zSim X_X9_fillings (1 + (n + 1)) P 94 (bX9_fillingst_94 self P r18) := by
  unfold bX9_fillingst_94
  refine sm_iincR (pc := 94) (n := 5) dX9_fillings_94 zc_i_1 ?_
  refine sm_goto (pc := 97) (tgt := 18) dX9_fillings_97 (by decide) ?_
  exact hr18.use
noncomputable def cX9_fillingst_62 {d : Nat} (self : List zV → zH d → zP d → Bool) (P : zP d) (j94 : zK d) : zK d := (xbin zsubR (xasQ 0 (fun v => v) (xild 4 (xaldV 0 (xild 1 (xild 2 (xild 3 (xpI 1 (xbin zaddR (xcV 25 4 0 0 self (xbin zaddR (xist 4 (xaldV 0 (xgfR 25 62 (xild 5 (xdup2V (xalQ 0 (xaldV 0 (xild 2 (xild 3 (xcV 25 3 0 0 (zstr f_X9_partOft) (xbin zaddR (xasQ 0 (fun v => v) j94)))))))))))))))))))))))
set_option maxRecDepth 100000 in
set_option maxHeartbeats 4000000 in
theorem scX9_fillingst_62 {d : Nat} [zGh] (n : Nat) (self : List zV → zH d → zP d → Bool) (hself : zMet X_X9_fillings yX9_fillings (1 + n) self) (P : zP d) (j94 : zK d) (hj94 : zSimJ 1 X_X9_fillings (1 + (n + 1)) P 94 j94) : zSim X_X9_fillings (1 + (n + 1)) P 62 (cX9_fillingst_62 self P j94) := by
  unfold cX9_fillingst_62
  refine sm_isubR (pc := 62) dX9_fillings_62 ?_
  refine sm_iastoreQ (pc := 63) dX9_fillings_63 ?_
  refine sm_iload (pc := 64) (n := 4) dX9_fillings_64 ?_
  refine sm_aloadV_n (pc := 66) (n := 0) dX9_fillings_66 rfl ?_
  refine sm_iload_n (pc := 67) (n := 1) dX9_fillings_67 rfl ?_
  refine sm_iload_n (pc := 68) (n := 2) dX9_fillings_68 rfl ?_
  refine sm_iload_n (pc := 69) (n := 3) dX9_fillings_69 rfl ?_
  refine sm_iconst (pc := 70) dX9_fillings_70 zc_i_1 ?_
  refine sm_iaddR (pc := 71) dX9_fillings_71 ?_
  refine sm_cV (pc := 72) (ci := 9) (n := 4) (mc := 0) (ms := 0) rfl hself (cr_X9_390 (X := X_X9_fillings) (fr := 1 + (n + 1)) (frc := 1 + n) (pc := 72) (mc := 0) (ms := 0) rfl (by omega) dX9_fillings_72) ?_
  refine sm_iaddR (pc := 75) dX9_fillings_75 ?_
  refine sm_istore (pc := 76) (n := 4) dX9_fillings_76 ?_
  refine sm_aloadV_n (pc := 78) (n := 0) dX9_fillings_78 rfl ?_
  refine gf_X9_146 (pc := 79) rfl dX9_fillings_79 ?_
  refine sm_iload (pc := 82) (n := 5) dX9_fillings_82 ?_
  refine sm_dup2V (pc := 84) dX9_fillings_84 ?_
  refine sm_ialoadQ (pc := 85) dX9_fillings_85 ?_
  refine sm_aloadV_n (pc := 86) (n := 0) dX9_fillings_86 rfl ?_
  refine sm_iload_n (pc := 87) (n := 2) dX9_fillings_87 rfl ?_
  refine sm_iload_n (pc := 88) (n := 3) dX9_fillings_88 rfl ?_
  refine sm_cV (pc := 89) (ci := 9) (n := 3) (mc := 0) (ms := 0) rfl (zMet_str m_X9_partOft) (cr_X9_175 (X := X_X9_fillings) (fr := 1 + (n + 1)) (frc := 1) (pc := 89) (mc := 0) (ms := 0) rfl (by omega) dX9_fillings_89) ?_
  refine sm_iaddR (pc := 92) dX9_fillings_92 ?_
  refine sm_iastoreQ (pc := 93) dX9_fillings_93 ?_
  exact hj94.use
noncomputable def lX9_fillingst_18 {d : Nat} (self : List zV → zH d → zP d → Bool) (P : zP d) (r18 : zK d) : zK d := (xild 5 (xaldV 0 (xgfR 25 4 (xild 1 (xalQ 0 (xcmpS tgeR rlGe rhS rlS rhLt (xild 4 (xiret P)) (xaldV 0 (xgfR 25 62 (xild 5 (xalQ 0 (xaldV 0 (xild 2 (xild 3 (xcV 25 3 0 0 (zstr f_X9_partOft) (xjn (wkL 4 4294967296 wkE) (zsp [] 2) (bX9_fillingst_94 self P r18) (fun j94 => (xcmpS tgeR rlGe rhS rlS rhLt (xaldV 0 (xgfR 25 62 (xild 5 (xdup2V (xalQ 0 (xaldV 0 (xild 2 (xild 3 (xcV 25 3 0 0 (zstr f_X9_partOft) (cX9_fillingst_62 self P j94)))))))))) j94)))))))))))))))))
set_option maxRecDepth 100000 in
set_option maxHeartbeats 4000000 in
theorem slX9_fillingst_18 {d : Nat} [zGh] (n : Nat) (self : List zV → zH d → zP d → Bool) (hself : zMet X_X9_fillings yX9_fillings (1 + n) self) (P : zP d) (r18 : zK d) (hr18 : zSimJ 1 X_X9_fillings (1 + (n + 1)) P 18 r18) : zSim X_X9_fillings (1 + (n + 1)) P 18 (lX9_fillingst_18 self P r18) := by
  unfold lX9_fillingst_18
  refine sm_iload (pc := 18) (n := 5) dX9_fillings_18 ?_
  refine sm_aloadV_n (pc := 20) (n := 0) dX9_fillings_20 rfl ?_
  refine gf_X9_13 (pc := 21) rfl dX9_fillings_21 ?_
  refine sm_iload_n (pc := 24) (n := 1) dX9_fillings_24 rfl ?_
  refine sm_ialoadQ (pc := 25) dX9_fillings_25 ?_
  refine sm_icmpS_ge (pc := 26) (tgt := 100) dX9_fillings_26 (by decide) ?_ ?_
  · skip
    refine sm_iload (pc := 100) (n := 4) dX9_fillings_100 ?_
    exact sm_ireturn (pc := 102) dX9_fillings_102 rfl
  · skip
    refine sm_aloadV_n (pc := 29) (n := 0) dX9_fillings_29 rfl ?_
    refine gf_X9_146 (pc := 30) rfl dX9_fillings_30 ?_
    refine sm_iload (pc := 33) (n := 5) dX9_fillings_33 ?_
    refine sm_ialoadQ (pc := 35) dX9_fillings_35 ?_
    refine sm_aloadV_n (pc := 36) (n := 0) dX9_fillings_36 rfl ?_
    refine sm_iload_n (pc := 37) (n := 2) dX9_fillings_37 rfl ?_
    refine sm_iload_n (pc := 38) (n := 3) dX9_fillings_38 rfl ?_
    refine sm_cV (pc := 39) (ci := 9) (n := 3) (mc := 0) (ms := 0) rfl (zMet_str m_X9_partOft) (cr_X9_175 (X := X_X9_fillings) (fr := 1 + (n + 1)) (frc := 1) (pc := 39) (mc := 0) (ms := 0) rfl (by omega) dX9_fillings_39) ?_
    refine sm_jn (pc := 42) (pc' := 94) (j := 1) (wkL_ok wkE_ok) (zsp_ok _ _) (fun G0 hG0 => @sbX9_fillingst_94 d G0 n self hself P r18 (hr18.mv hG0 (by decide))) (fun j94 hj94 => ?_)
    refine sm_icmpS_ge (pc := 42) (tgt := 48) dX9_fillings_42 (by decide) ?_ ?_
    · skip
      refine sm_aloadV_n (pc := 48) (n := 0) dX9_fillings_48 rfl ?_
      refine gf_X9_146 (pc := 49) rfl dX9_fillings_49 ?_
      refine sm_iload (pc := 52) (n := 5) dX9_fillings_52 ?_
      refine sm_dup2V (pc := 54) dX9_fillings_54 ?_
      refine sm_ialoadQ (pc := 55) dX9_fillings_55 ?_
      refine sm_aloadV_n (pc := 56) (n := 0) dX9_fillings_56 rfl ?_
      refine sm_iload_n (pc := 57) (n := 2) dX9_fillings_57 rfl ?_
      refine sm_iload_n (pc := 58) (n := 3) dX9_fillings_58 rfl ?_
      refine sm_cV (pc := 59) (ci := 9) (n := 3) (mc := 0) (ms := 0) rfl (zMet_str m_X9_partOft) (cr_X9_175 (X := X_X9_fillings) (fr := 1 + (n + 1)) (frc := 1) (pc := 59) (mc := 0) (ms := 0) rfl (by omega) dX9_fillings_59) ?_
      exact scX9_fillingst_62 n self hself P j94 hj94
    · skip
      refine sm_goto (pc := 45) (tgt := 94) dX9_fillings_45 (by decide) ?_
      exact hj94.use
noncomputable def b_X9_fillingst {d : Nat} (self : List zV → zH d → zP d → Bool) (P : zP d) : zK d := (xild 3 (xaldV 0 (xgfR 25 4 (xild 2 (xalQ 0 (xcmpS teqR rlEq rhEq rlNe rhNe (xpI 1 (xiret P)) (xpI 0 (xist 4 (xpI 0 (xist 5 (xloop (fun r18 => (lX9_fillingst_18 self P r18)) 100000)))))))))))
set_option maxRecDepth 100000 in
set_option maxHeartbeats 4000000 in
theorem s_X9_fillingst {d : Nat} [zGh] (n : Nat) (self : List zV → zH d → zP d → Bool) (hself : zMet X_X9_fillings yX9_fillings (1 + n) self) (P : zP d) : zSim X_X9_fillings (1 + (n + 1)) P 0 (b_X9_fillingst self P) := by
  unfold b_X9_fillingst
  refine sm_iload_n (pc := 0) (n := 3) dX9_fillings_0 rfl ?_
  refine sm_aloadV_n (pc := 1) (n := 0) dX9_fillings_1 rfl ?_
  refine gf_X9_13 (pc := 2) rfl dX9_fillings_2 ?_
  refine sm_iload_n (pc := 5) (n := 2) dX9_fillings_5 rfl ?_
  refine sm_ialoadQ (pc := 6) dX9_fillings_6 ?_
  refine sm_icmpS_ne (pc := 7) (tgt := 12) dX9_fillings_7 (by decide) ?_ ?_
  · skip
    refine sm_iconst (pc := 12) dX9_fillings_12 zc_i_0 ?_
    refine sm_istore (pc := 13) (n := 4) dX9_fillings_13 ?_
    refine sm_iconst (pc := 15) dX9_fillings_15 zc_i_0 ?_
    refine sm_istore (pc := 16) (n := 5) dX9_fillings_16 ?_
    exact (sm_loopJ (j := 1) (fun G1 hG1 r18 hr18 => @slX9_fillingst_18 d G1 n self hself P r18 hr18) _).use
  · skip
    refine sm_iconst (pc := 10) dX9_fillings_10 zc_i_1 ?_
    exact sm_ireturn (pc := 11) dX9_fillings_11 rfl
theorem mr_X9_fillingst {d : Nat} {mc ms : Nat} {r0 : zV} (Es : List (zEn d)) (hg : zgdR mc ms r0 (fun f => zfn 6 (b_X9_fillingst f)) Es = true) (n : Nat) (hn : Es.length ≤ n) : zMet X_X9_fillings yX9_fillings (1 + n) (zselfR mc ms r0 Es) := zMet_rc (X := X_X9_fillings) (by decide) rfl rfl (fun n f hf _ P => s_X9_fillingst n f hf P) Es hg n hn

noncomputable def bX9_readsNamedt_217 {d : Nat} (f1 : List zV → zH d → zP d → Bool) (f2 : List zV → zH d → zP d → Bool) (P : zP d) (r83 : zK d) : zK d := (xlas (xincR 4 1 r83))
set_option maxRecDepth 100000 in
set_option maxHeartbeats 4000000 in
theorem sbX9_readsNamedt_217 {d : Nat} [zGh] (n1 n2 : Nat) (f1 : List zV → zH d → zP d → Bool) (f2 : List zV → zH d → zP d → Bool) (hf1 : zMet X_X9_readsPart yX9_readsPart n1 f1) (hf2 : zMet X_X9_fillings yX9_fillings n2 f2) (P : zP d) (r83 : zK d) (hr83 : zSimJ 1 X_X9_readsNamed (n1 + n2 + 2) P 83 r83) : zSim X_X9_readsNamed (n1 + n2 + 2) P 217 (bX9_readsNamedt_217 f1 f2 P r83) := by
  unfold bX9_readsNamedt_217
  refine sm_lastore (pc := 217) dX9_readsNamed_217 ?_
  refine sm_iincR (pc := 218) (n := 4) dX9_readsNamed_218 zc_i_1 ?_
  refine sm_goto (pc := 221) (tgt := 83) dX9_readsNamed_221 (by decide) ?_
  exact hr83.use
noncomputable def cX9_readsNamedt_207 {d : Nat} (f1 : List zV → zH d → zP d → Bool) (f2 : List zV → zH d → zP d → Bool) (P : zP d) (j217 : zK d) : zK d := (xbin zmulR (xild 4 (xbin zaddR (xalQ 0 (xi2lR j217)))))
set_option maxRecDepth 100000 in
set_option maxHeartbeats 4000000 in
theorem scX9_readsNamedt_207 {d : Nat} [zGh] (n1 n2 : Nat) (f1 : List zV → zH d → zP d → Bool) (f2 : List zV → zH d → zP d → Bool) (hf1 : zMet X_X9_readsPart yX9_readsPart n1 f1) (hf2 : zMet X_X9_fillings yX9_fillings n2 f2) (P : zP d) (j217 : zK d) (hj217 : zSimJ 1 X_X9_readsNamed (n1 + n2 + 2) P 217 j217) : zSim X_X9_readsNamed (n1 + n2 + 2) P 207 (cX9_readsNamedt_207 f1 f2 P j217) := by
  unfold cX9_readsNamedt_207
  refine sm_imulR (pc := 207) dX9_readsNamed_207 ?_
  refine sm_iload (pc := 208) (n := 4) dX9_readsNamed_208 ?_
  refine sm_iaddR (pc := 210) dX9_readsNamed_210 ?_
  refine sm_ialoadQ (pc := 211) dX9_readsNamed_211 ?_
  refine sm_i2lR (pc := 212) dX9_readsNamed_212 ?_
  refine sm_goto (pc := 213) (tgt := 217) dX9_readsNamed_213 (by decide) ?_
  exact hj217.use
noncomputable def lX9_readsNamedt_95 {d : Nat} (f1 : List zV → zH d → zP d → Bool) (f2 : List zV → zH d → zP d → Bool) (P : zP d) (r83 : zK d) (r95 : zK d) : zK d := (xild 5 (xpI 6 (xcmpS tgeR rlGe rhS rlS rhLt (xaldV 0 (xgfR 25 58 (xild 4 (xild 1 (xpI 91 (xjn (wkA 0 [62] 4294967296 wkE) (zsp [zL 18446744073709551616] 2) (bX9_readsNamedt_217 f1 f2 P r83) (fun j217 => (xcmpS teqR rlEq rhEq rlNe rhNe (xaldV 0 (xgfR 25 14 (xpI 11 (xild 3 (xbin zmulR (xild 4 (xbin zaddR (xalQ 0 (xi2lR j217))))))))) (xild 1 (xpI 80 (xcmpS teqR rlEq rhEq rlNe rhNe (xaldV 0 (xgfR 25 40 (xpI 11 (xild 3 (xbin zmulR (xild 4 (xbin zaddR (xalQ 0 (xi2lR j217))))))))) (xild 1 (xpI 77 (xcmpS teqR rlEq rhEq rlNe rhNe (xaldV 0 (xild 3 (xild 4 (xpI 0 (xcV 25 4 0 0 (zstr f2) (xi2lR j217)))))) (xaldV 0 (xgfR 25 8 (xild 4 (xalQ 1 (xif0S teqR rlEq rhEq rlNe rhNe (xpL 0 j217) (xaldV 0 (xgfR 25 37 (xpI 11 (xild 3 (cX9_readsNamedt_207 f1 f2 P j217)))))))))))))))))))))))) (xaldV 0 (xgfR 25 62 (xild 5 (xaldV 0 (xild 3 (xild 5 (xcV 25 3 0 0 (zstr f_X9_partOft) (xasQ 0 (fun v => v) (xincR 5 1 r95))))))))))))
set_option maxRecDepth 100000 in
set_option maxHeartbeats 4000000 in
theorem slX9_readsNamedt_95 {d : Nat} [zGh] (n1 n2 : Nat) (f1 : List zV → zH d → zP d → Bool) (f2 : List zV → zH d → zP d → Bool) (hf1 : zMet X_X9_readsPart yX9_readsPart n1 f1) (hf2 : zMet X_X9_fillings yX9_fillings n2 f2) (P : zP d) (r83 : zK d) (r95 : zK d) (hr83 : zSimJ 1 X_X9_readsNamed (n1 + n2 + 2) P 83 r83) (hr95 : zSimJ 1 X_X9_readsNamed (n1 + n2 + 2) P 95 r95) : zSim X_X9_readsNamed (n1 + n2 + 2) P 95 (lX9_readsNamedt_95 f1 f2 P r83 r95) := by
  unfold lX9_readsNamedt_95
  refine sm_iload (pc := 95) (n := 5) dX9_readsNamed_95 ?_
  refine sm_bipush (pc := 97) dX9_readsNamed_97 zc_b_6 ?_
  refine sm_icmpS_ge (pc := 99) (tgt := 122) dX9_readsNamed_99 (by decide) ?_ ?_
  · skip
    refine sm_aloadV_n (pc := 122) (n := 0) dX9_readsNamed_122 rfl ?_
    refine gf_X9_140 (pc := 123) rfl dX9_readsNamed_123 ?_
    refine sm_iload (pc := 126) (n := 4) dX9_readsNamed_126 ?_
    refine sm_iload_n (pc := 128) (n := 1) dX9_readsNamed_128 rfl ?_
    refine sm_bipush (pc := 129) dX9_readsNamed_129 zc_b_91 ?_
    refine sm_jn (pc := 131) (pc' := 217) (j := 1) (wkA_ok wkE_ok) (zsp_ok _ _) (fun G0 hG0 => @sbX9_readsNamedt_217 d G0 n1 n2 f1 f2 hf1 hf2 P r83 (hr83.mv hG0 (by decide))) (fun j217 hj217 => ?_)
    refine sm_icmpS_ne (pc := 131) (tgt := 150) dX9_readsNamed_131 (by decide) ?_ ?_
    · skip
      refine sm_iload_n (pc := 150) (n := 1) dX9_readsNamed_150 rfl ?_
      refine sm_bipush (pc := 151) dX9_readsNamed_151 zc_b_80 ?_
      refine sm_icmpS_ne (pc := 153) (tgt := 172) dX9_readsNamed_153 (by decide) ?_ ?_
      · skip
        refine sm_iload_n (pc := 172) (n := 1) dX9_readsNamed_172 rfl ?_
        refine sm_bipush (pc := 173) dX9_readsNamed_173 zc_b_77 ?_
        refine sm_icmpS_ne (pc := 175) (tgt := 190) dX9_readsNamed_175 (by decide) ?_ ?_
        · skip
          refine sm_aloadV_n (pc := 190) (n := 0) dX9_readsNamed_190 rfl ?_
          refine gf_X9_26 (pc := 191) rfl dX9_readsNamed_191 ?_
          refine sm_iload (pc := 194) (n := 4) dX9_readsNamed_194 ?_
          refine sm_baloadQ (pc := 196) dX9_readsNamed_196 ?_
          refine sm_ifS_eq (pc := 197) (tgt := 216) dX9_readsNamed_197 (by decide) ?_ ?_
          · skip
            refine sm_lconst (pc := 216) dX9_readsNamed_216 zc_l_0 ?_
            exact hj217.use
          · skip
            refine sm_aloadV_n (pc := 200) (n := 0) dX9_readsNamed_200 rfl ?_
            refine gf_X9_96 (pc := 201) rfl dX9_readsNamed_201 ?_
            refine sm_bipush (pc := 204) dX9_readsNamed_204 zc_b_11 ?_
            refine sm_iload_n (pc := 206) (n := 3) dX9_readsNamed_206 rfl ?_
            exact scX9_readsNamedt_207 n1 n2 f1 f2 hf1 hf2 P j217 hj217
        · skip
          refine sm_aloadV_n (pc := 178) (n := 0) dX9_readsNamed_178 rfl ?_
          refine sm_iload_n (pc := 179) (n := 3) dX9_readsNamed_179 rfl ?_
          refine sm_iload (pc := 180) (n := 4) dX9_readsNamed_180 ?_
          refine sm_iconst (pc := 182) dX9_readsNamed_182 zc_i_0 ?_
          refine sm_cV (pc := 183) (ci := 9) (n := 4) (mc := 0) (ms := 0) rfl (zMet_str hf2) (cr_X9_390 (X := X_X9_readsNamed) (fr := n1 + n2 + 2) (frc := n2) (pc := 183) (mc := 0) (ms := 0) rfl (by omega) dX9_readsNamed_183) ?_
          refine sm_i2lR (pc := 186) dX9_readsNamed_186 ?_
          refine sm_goto (pc := 187) (tgt := 217) dX9_readsNamed_187 (by decide) ?_
          exact hj217.use
      · skip
        refine sm_aloadV_n (pc := 156) (n := 0) dX9_readsNamed_156 rfl ?_
        refine gf_X9_105 (pc := 157) rfl dX9_readsNamed_157 ?_
        refine sm_bipush (pc := 160) dX9_readsNamed_160 zc_b_11 ?_
        refine sm_iload_n (pc := 162) (n := 3) dX9_readsNamed_162 rfl ?_
        refine sm_imulR (pc := 163) dX9_readsNamed_163 ?_
        refine sm_iload (pc := 164) (n := 4) dX9_readsNamed_164 ?_
        refine sm_iaddR (pc := 166) dX9_readsNamed_166 ?_
        refine sm_ialoadQ (pc := 167) dX9_readsNamed_167 ?_
        refine sm_i2lR (pc := 168) dX9_readsNamed_168 ?_
        refine sm_goto (pc := 169) (tgt := 217) dX9_readsNamed_169 (by decide) ?_
        exact hj217.use
    · skip
      refine sm_aloadV_n (pc := 134) (n := 0) dX9_readsNamed_134 rfl ?_
      refine gf_X9_38 (pc := 135) rfl dX9_readsNamed_135 ?_
      refine sm_bipush (pc := 138) dX9_readsNamed_138 zc_b_11 ?_
      refine sm_iload_n (pc := 140) (n := 3) dX9_readsNamed_140 rfl ?_
      refine sm_imulR (pc := 141) dX9_readsNamed_141 ?_
      refine sm_iload (pc := 142) (n := 4) dX9_readsNamed_142 ?_
      refine sm_iaddR (pc := 144) dX9_readsNamed_144 ?_
      refine sm_ialoadQ (pc := 145) dX9_readsNamed_145 ?_
      refine sm_i2lR (pc := 146) dX9_readsNamed_146 ?_
      refine sm_goto (pc := 147) (tgt := 217) dX9_readsNamed_147 (by decide) ?_
      exact hj217.use
  · skip
    refine sm_aloadV_n (pc := 102) (n := 0) dX9_readsNamed_102 rfl ?_
    refine gf_X9_146 (pc := 103) rfl dX9_readsNamed_103 ?_
    refine sm_iload (pc := 106) (n := 5) dX9_readsNamed_106 ?_
    refine sm_aloadV_n (pc := 108) (n := 0) dX9_readsNamed_108 rfl ?_
    refine sm_iload_n (pc := 109) (n := 3) dX9_readsNamed_109 rfl ?_
    refine sm_iload (pc := 110) (n := 5) dX9_readsNamed_110 ?_
    refine sm_cV (pc := 112) (ci := 9) (n := 3) (mc := 0) (ms := 0) rfl (zMet_str m_X9_partOft) (cr_X9_175 (X := X_X9_readsNamed) (fr := n1 + n2 + 2) (frc := 1) (pc := 112) (mc := 0) (ms := 0) rfl (by omega) dX9_readsNamed_112) ?_
    refine sm_iastoreQ (pc := 115) dX9_readsNamed_115 ?_
    refine sm_iincR (pc := 116) (n := 5) dX9_readsNamed_116 zc_i_1 ?_
    refine sm_goto (pc := 119) (tgt := 95) dX9_readsNamed_119 (by decide) ?_
    exact hr95.use
noncomputable def lX9_readsNamedt_83 {d : Nat} (f1 : List zV → zH d → zP d → Bool) (f2 : List zV → zH d → zP d → Bool) (P : zP d) (r83 : zK d) : zK d := (xild 4 (xaldV 0 (xgfI 25 2 (xcmpS tgeR rlGe rhS rlS rhLt (xpI 1 (xzret P)) (xpI 0 (xist 5 (xloop (fun r95 => (lX9_readsNamedt_95 f1 f2 P r83 r95)) 100000)))))))
set_option maxRecDepth 100000 in
set_option maxHeartbeats 4000000 in
theorem slX9_readsNamedt_83 {d : Nat} [zGh] (n1 n2 : Nat) (f1 : List zV → zH d → zP d → Bool) (f2 : List zV → zH d → zP d → Bool) (hf1 : zMet X_X9_readsPart yX9_readsPart n1 f1) (hf2 : zMet X_X9_fillings yX9_fillings n2 f2) (P : zP d) (r83 : zK d) (hr83 : zSimJ 1 X_X9_readsNamed (n1 + n2 + 2) P 83 r83) : zSim X_X9_readsNamed (n1 + n2 + 2) P 83 (lX9_readsNamedt_83 f1 f2 P r83) := by
  unfold lX9_readsNamedt_83
  refine sm_iload (pc := 83) (n := 4) dX9_readsNamed_83 ?_
  refine sm_aloadV_n (pc := 85) (n := 0) dX9_readsNamed_85 rfl ?_
  refine gf_X9_153 (pc := 86) rfl dX9_readsNamed_86 ?_
  refine sm_icmpS_ge (pc := 89) (tgt := 224) dX9_readsNamed_89 (by decide) ?_ ?_
  · skip
    refine sm_iconst (pc := 224) dX9_readsNamed_224 zc_i_1 ?_
    exact sm_zreturn (pc := 225) dX9_readsNamed_225 rfl
  · skip
    refine sm_iconst (pc := 92) dX9_readsNamed_92 zc_i_0 ?_
    refine sm_istore (pc := 93) (n := 5) dX9_readsNamed_93 ?_
    exact (sm_loopJ (j := 1) (fun G1 hG1 r95 hr95 => @slX9_readsNamedt_95 d G1 n1 n2 f1 f2 hf1 hf2 P r83 r95 (hr83.mv hG1 (by decide)) hr95) _).use
noncomputable def bX9_readsNamedt_80 {d : Nat} (f1 : List zV → zH d → zP d → Bool) (f2 : List zV → zH d → zP d → Bool) (P : zP d) : zK d := (xpI 0 (xist 4 (xloop (fun r83 => (lX9_readsNamedt_83 f1 f2 P r83)) 100000)))
set_option maxRecDepth 100000 in
set_option maxHeartbeats 4000000 in
theorem sbX9_readsNamedt_80 {d : Nat} [zGh] (n1 n2 : Nat) (f1 : List zV → zH d → zP d → Bool) (f2 : List zV → zH d → zP d → Bool) (hf1 : zMet X_X9_readsPart yX9_readsPart n1 f1) (hf2 : zMet X_X9_fillings yX9_fillings n2 f2) (P : zP d) : zSim X_X9_readsNamed (n1 + n2 + 2) P 80 (bX9_readsNamedt_80 f1 f2 P) := by
  unfold bX9_readsNamedt_80
  refine sm_iconst (pc := 80) dX9_readsNamed_80 zc_i_0 ?_
  refine sm_istore (pc := 81) (n := 4) dX9_readsNamed_81 ?_
  exact (sm_loopJ (j := 1) (fun G1 hG1 r83 hr83 => @slX9_readsNamedt_83 d G1 n1 n2 f1 f2 hf1 hf2 P r83 hr83) _).use
noncomputable def bX9_readsNamedt_64 {d : Nat} (f1 : List zV → zH d → zP d → Bool) (f2 : List zV → zH d → zP d → Bool) (P : zP d) (j80 : zK d) : zK d := (xaldV 0 (xgfR 25 7 (xild 3 (xalQ 1 (xif0S teqR rlEq rhEq rlNe rhNe (xaldV 0 (xpI 3 (xild 2 (xcV 25 3 0 0 (zstr f_X9_failst) (xzret P))))) j80)))))
set_option maxRecDepth 100000 in
set_option maxHeartbeats 4000000 in
theorem sbX9_readsNamedt_64 {d : Nat} [zGh] (n1 n2 : Nat) (f1 : List zV → zH d → zP d → Bool) (f2 : List zV → zH d → zP d → Bool) (hf1 : zMet X_X9_readsPart yX9_readsPart n1 f1) (hf2 : zMet X_X9_fillings yX9_fillings n2 f2) (P : zP d) (j80 : zK d) (hj80 : zSimJ 1 X_X9_readsNamed (n1 + n2 + 2) P 80 j80) : zSim X_X9_readsNamed (n1 + n2 + 2) P 64 (bX9_readsNamedt_64 f1 f2 P j80) := by
  unfold bX9_readsNamedt_64
  refine sm_aloadV_n (pc := 64) (n := 0) dX9_readsNamed_64 rfl ?_
  refine gf_X9_22 (pc := 65) rfl dX9_readsNamed_65 ?_
  refine sm_iload_n (pc := 68) (n := 3) dX9_readsNamed_68 rfl ?_
  refine sm_baloadQ (pc := 69) dX9_readsNamed_69 ?_
  refine sm_ifS_ne (pc := 70) (tgt := 80) dX9_readsNamed_70 (by decide) ?_ ?_
  · skip
    exact hj80.use
  · skip
    refine sm_aloadV_n (pc := 73) (n := 0) dX9_readsNamed_73 rfl ?_
    refine sm_iconst (pc := 74) dX9_readsNamed_74 zc_i_3 ?_
    refine sm_iload_n (pc := 75) (n := 2) dX9_readsNamed_75 rfl ?_
    refine sm_cV (pc := 76) (ci := 9) (n := 3) (mc := 0) (ms := 0) rfl (zMet_str m_X9_failst) (cr_X9_377 (X := X_X9_readsNamed) (fr := n1 + n2 + 2) (frc := 1) (pc := 76) (mc := 0) (ms := 0) rfl (by omega) dX9_readsNamed_76) ?_
    exact sm_zreturn (pc := 79) dX9_readsNamed_79 rfl
noncomputable def bX9_readsNamedt_40 {d : Nat} (f1 : List zV → zH d → zP d → Bool) (f2 : List zV → zH d → zP d → Bool) (P : zP d) : zK d := (xaldV 0 (xcV 25 1 0 0 (zstr f1) (xist 3 (xild 3 (xpI 4294967295 (xcmpS teqR rlEq rhEq rlNe rhNe (xpI 0 (xzret P)) (xild 1 (xpI 68 (xjoin (bX9_readsNamedt_80 f1 f2 P) (fun j80 => (xjoin (bX9_readsNamedt_64 f1 f2 P j80) (fun j64 => (xcmpS teqR rlEq rhEq rlNe rhNe j64 (xild 1 (xpI 80 (xcmpS teqR rlEq rhEq rlNe rhNe j64 j80))))))))))))))))
set_option maxRecDepth 100000 in
set_option maxHeartbeats 4000000 in
theorem sbX9_readsNamedt_40 {d : Nat} [zGh] (n1 n2 : Nat) (f1 : List zV → zH d → zP d → Bool) (f2 : List zV → zH d → zP d → Bool) (hf1 : zMet X_X9_readsPart yX9_readsPart n1 f1) (hf2 : zMet X_X9_fillings yX9_fillings n2 f2) (P : zP d) : zSim X_X9_readsNamed (n1 + n2 + 2) P 40 (bX9_readsNamedt_40 f1 f2 P) := by
  unfold bX9_readsNamedt_40
  refine sm_aloadV_n (pc := 40) (n := 0) dX9_readsNamed_40 rfl ?_
  refine sm_cV (pc := 41) (ci := 9) (n := 1) (mc := 0) (ms := 0) rfl (zMet_str hf1) (cr_X9_393 (X := X_X9_readsNamed) (fr := n1 + n2 + 2) (frc := n1) (pc := 41) (mc := 0) (ms := 0) rfl (by omega) dX9_readsNamed_41) ?_
  refine sm_istore_n (pc := 44) (n := 3) dX9_readsNamed_44 rfl ?_
  refine sm_iload_n (pc := 45) (n := 3) dX9_readsNamed_45 rfl ?_
  refine sm_iconst (pc := 46) dX9_readsNamed_46 zc_i_m1 ?_
  refine sm_icmpS_ne (pc := 47) (tgt := 52) dX9_readsNamed_47 (by decide) ?_ ?_
  · skip
    refine sm_iload_n (pc := 52) (n := 1) dX9_readsNamed_52 rfl ?_
    refine sm_bipush (pc := 53) dX9_readsNamed_53 zc_b_68 ?_
    refine sm_joinJ (pc := 55) (pc' := 80) (j := 1) (fun G0 hG0 => @sbX9_readsNamedt_80 d G0 n1 n2 f1 f2 hf1 hf2 P) (fun j80 hj80 => ?_)
    refine sm_joinJ (pc := 55) (pc' := 64) (j := 1) (fun G0 hG0 => @sbX9_readsNamedt_64 d G0 n1 n2 f1 f2 hf1 hf2 P j80 (hj80.mv hG0 (by decide))) (fun j64 hj64 => ?_)
    refine sm_icmpS_eq (pc := 55) (tgt := 64) dX9_readsNamed_55 (by decide) ?_ ?_
    · skip
      exact hj64.use
    · skip
      refine sm_iload_n (pc := 58) (n := 1) dX9_readsNamed_58 rfl ?_
      refine sm_bipush (pc := 59) dX9_readsNamed_59 zc_b_80 ?_
      refine sm_icmpS_ne (pc := 61) (tgt := 80) dX9_readsNamed_61 (by decide) ?_ ?_
      · skip
        exact hj80.use
      · skip
        exact hj64.use
  · skip
    refine sm_iconst (pc := 50) dX9_readsNamed_50 zc_i_0 ?_
    exact sm_zreturn (pc := 51) dX9_readsNamed_51 rfl
noncomputable def b_X9_readsNamedt {d : Nat} (f1 : List zV → zH d → zP d → Bool) (f2 : List zV → zH d → zP d → Bool) (P : zP d) : zK d := (xaldV 0 (xgfT 25 47 (xist 2 (xild 1 (xpI 91 (xjoin (bX9_readsNamedt_40 f1 f2 P) (fun j40 => (xcmpS teqR rlEq rhEq rlNe rhNe j40 (xai 25 47 (xaldV 0 (xcV 25 1 0 0 (zstr g_X9_see) (xpI 91 (xcmpS teqR rlEq rhEq rlNe rhNe j40 (xaldV 0 (xpI 1 (xaldV 0 (xgfT 25 47 (xcV 25 3 0 0 (zstr f_X9_failst) (xzret P)))))))))))))))))))
set_option maxRecDepth 100000 in
set_option maxHeartbeats 4000000 in
theorem s_X9_readsNamedt {d : Nat} [zGh] (n1 n2 : Nat) (f1 : List zV → zH d → zP d → Bool) (f2 : List zV → zH d → zP d → Bool) (hf1 : zMet X_X9_readsPart yX9_readsPart n1 f1) (hf2 : zMet X_X9_fillings yX9_fillings n2 f2) (P : zP d) : zSim X_X9_readsNamed (n1 + n2 + 2) P 0 (b_X9_readsNamedt f1 f2 P) := by
  unfold b_X9_readsNamedt
  refine sm_aloadV_n (pc := 0) (n := 0) dX9_readsNamed_0 rfl ?_
  refine gfT_X9_353 (pc := 1) rfl dX9_readsNamed_1 ?_
  refine sm_istore_n (pc := 4) (n := 2) dX9_readsNamed_4 rfl ?_
  refine sm_iload_n (pc := 5) (n := 1) dX9_readsNamed_5 rfl ?_
  refine sm_bipush (pc := 6) dX9_readsNamed_6 zc_b_91 ?_
  refine sm_joinJ (pc := 8) (pc' := 40) (j := 1) (fun G0 hG0 => @sbX9_readsNamedt_40 d G0 n1 n2 f1 f2 hf1 hf2 P) (fun j40 hj40 => ?_)
  refine sm_icmpS_eq (pc := 8) (tgt := 40) dX9_readsNamed_8 (by decide) ?_ ?_
  · skip
    exact hj40.use
  · skip
    refine sm_ai (pc := 11) (ci := 9) (n := 47) (C := RX9) (T := TX9) (N := 63) rfl rfl rfl zc_i_1 inz9 rfl (by decide) wd_1065 rfl dX9_readsNamed_11 rfl dX9_readsNamed_12 dX9_readsNamed_13 dX9_readsNamed_16 dX9_readsNamed_17 (zput (C := RX9) (T := TX9) (N := 63) (ty0 := tyX9) (ty := .int) inz9 tyX9_ok nmX9 rfl (by decide) wd_1065 rfl rfl dX9_readsNamed_18) ?_
    refine sm_aloadV_n (pc := 21) (n := 0) dX9_readsNamed_21 rfl ?_
    refine sm_cV (pc := 22) (ci := 9) (n := 1) (mc := 0) (ms := 0) rfl (zMet_str mg_X9_see) (cr_X9_364 (X := X_X9_readsNamed) (fr := n1 + n2 + 2) (frc := 1) (pc := 22) (mc := 0) (ms := 0) rfl (by omega) dX9_readsNamed_22) ?_
    refine sm_bipush (pc := 25) dX9_readsNamed_25 zc_b_91 ?_
    refine sm_icmpS_eq (pc := 27) (tgt := 40) dX9_readsNamed_27 (by decide) ?_ ?_
    · skip
      exact hj40.use
    · skip
      refine sm_aloadV_n (pc := 30) (n := 0) dX9_readsNamed_30 rfl ?_
      refine sm_iconst (pc := 31) dX9_readsNamed_31 zc_i_1 ?_
      refine sm_aloadV_n (pc := 32) (n := 0) dX9_readsNamed_32 rfl ?_
      refine gfT_X9_353 (pc := 33) rfl dX9_readsNamed_33 ?_
      refine sm_cV (pc := 36) (ci := 9) (n := 3) (mc := 0) (ms := 0) rfl (zMet_str m_X9_failst) (cr_X9_377 (X := X_X9_readsNamed) (fr := n1 + n2 + 2) (frc := 1) (pc := 36) (mc := 0) (ms := 0) rfl (by omega) dX9_readsNamed_36) ?_
      exact sm_zreturn (pc := 39) dX9_readsNamed_39 rfl
noncomputable def f_X9_readsNamedt {d : Nat} (f1 : List zV → zH d → zP d → Bool) (f2 : List zV → zH d → zP d → Bool) : List zV → zH d → zP d → Bool := zfn 6 (b_X9_readsNamedt f1 f2 )
theorem m_X9_readsNamedt {d : Nat} (n1 n2 : Nat) (f1 : List zV → zH d → zP d → Bool) (f2 : List zV → zH d → zP d → Bool) (hf1 : zMet X_X9_readsPart yX9_readsPart n1 f1) (hf2 : zMet X_X9_fillings yX9_fillings n2 f2) : zMet (d := d) X_X9_readsNamed yX9_readsNamed (n1 + n2 + 2) (f_X9_readsNamedt f1 f2 ) := zmet_mk (X := X_X9_readsNamed) (by decide) rfl rfl (fun P => s_X9_readsNamedt n1 n2 f1 f2 hf1 hf2 P)

noncomputable def lX9_readsSlott_41 {d : Nat} (P : zP d) (r41 : zK d) : zK d := (xild 1 (xaldV 0 (xgfI 25 2 (xcmpS tgeR rlGe rhS rlS rhLt (xpI 1 (xzret P)) (xaldV 0 (xgfR 25 58 (xild 1 (xaldV 0 (xgfR 25 43 (xpI 11 (xaldV 0 (xgfI 25 54 (xbin zmulR (xild 1 (xbin zaddR (xlal (xlas (xincR 1 1 r41))))))))))))))))))
set_option maxRecDepth 100000 in
set_option maxHeartbeats 4000000 in
theorem slX9_readsSlott_41 {d : Nat} [zGh] (P : zP d) (r41 : zK d) (hr41 : zSimJ 1 X_X9_readsSlot 3 P 41 r41) : zSim X_X9_readsSlot 3 P 41 (lX9_readsSlott_41 P r41) := by
  unfold lX9_readsSlott_41
  refine sm_iload_n (pc := 41) (n := 1) dX9_readsSlot_41 rfl ?_
  refine sm_aloadV_n (pc := 42) (n := 0) dX9_readsSlot_42 rfl ?_
  refine gf_X9_153 (pc := 43) rfl dX9_readsSlot_43 ?_
  refine sm_icmpS_ge (pc := 46) (tgt := 75) dX9_readsSlot_46 (by decide) ?_ ?_
  · skip
    refine sm_iconst (pc := 75) dX9_readsSlot_75 zc_i_1 ?_
    exact sm_zreturn (pc := 76) dX9_readsSlot_76 rfl
  · skip
    refine sm_aloadV_n (pc := 49) (n := 0) dX9_readsSlot_49 rfl ?_
    refine gf_X9_140 (pc := 50) rfl dX9_readsSlot_50 ?_
    refine sm_iload_n (pc := 53) (n := 1) dX9_readsSlot_53 rfl ?_
    refine sm_aloadV_n (pc := 54) (n := 0) dX9_readsSlot_54 rfl ?_
    refine gf_X9_115 (pc := 55) rfl dX9_readsSlot_55 ?_
    refine sm_bipush (pc := 58) dX9_readsSlot_58 zc_b_11 ?_
    refine sm_aloadV_n (pc := 60) (n := 0) dX9_readsSlot_60 rfl ?_
    refine gf_X9_370 (pc := 61) rfl dX9_readsSlot_61 ?_
    refine sm_imulR (pc := 64) dX9_readsSlot_64 ?_
    refine sm_iload_n (pc := 65) (n := 1) dX9_readsSlot_65 rfl ?_
    refine sm_iaddR (pc := 66) dX9_readsSlot_66 ?_
    refine sm_laload (pc := 67) dX9_readsSlot_67 ?_
    refine sm_lastore (pc := 68) dX9_readsSlot_68 ?_
    refine sm_iincR (pc := 69) (n := 1) dX9_readsSlot_69 zc_i_1 ?_
    refine sm_goto (pc := 72) (tgt := 41) dX9_readsSlot_72 (by decide) ?_
    exact hr41.use
noncomputable def b_X9_readsSlott {d : Nat} (P : zP d) : zK d := (xai 25 47 (xaldV 0 (xcV 25 1 0 0 (zstr g_X9_readsNumber) (xif0S teqR rlEq rhEq rlNe rhNe (xpI 0 (xzret P)) (xaldV 0 (xgfC 25 54 6 (xcS 1 0 0 (zstr f_X9_isSlott) (xif0S teqR rlEq rhEq rlNe rhNe (xaldV 0 (xpI 4 (xaldV 0 (xgfI 25 55 (xcV 25 3 0 0 (zstr f_X9_failst) (xzret P)))))) (xpI 0 (xist 1 (xloop (fun r41 => (lX9_readsSlott_41 P r41)) 100000)))))))))))
set_option maxRecDepth 100000 in
set_option maxHeartbeats 4000000 in
theorem s_X9_readsSlott {d : Nat} [zGh] (P : zP d) : zSim X_X9_readsSlot 3 P 0 (b_X9_readsSlott P) := by
  unfold b_X9_readsSlott
  refine sm_ai (pc := 0) (ci := 9) (n := 47) (C := RX9) (T := TX9) (N := 63) rfl rfl rfl zc_i_1 inz9 rfl (by decide) wd_1065 rfl dX9_readsSlot_0 rfl dX9_readsSlot_1 dX9_readsSlot_2 dX9_readsSlot_5 dX9_readsSlot_6 (zput (C := RX9) (T := TX9) (N := 63) (ty0 := tyX9) (ty := .int) inz9 tyX9_ok nmX9 rfl (by decide) wd_1065 rfl rfl dX9_readsSlot_7) ?_
  refine sm_aloadV_n (pc := 10) (n := 0) dX9_readsSlot_10 rfl ?_
  refine sm_cV (pc := 11) (ci := 9) (n := 1) (mc := 0) (ms := 0) rfl (zMet_str mg_X9_readsNumber) (cr_X9_383 (X := X_X9_readsSlot) (fr := 3) (frc := 2) (pc := 11) (mc := 0) (ms := 0) rfl (by decide) dX9_readsSlot_11) ?_
  refine sm_ifS_ne (pc := 14) (tgt := 19) dX9_readsSlot_14 (by decide) ?_ ?_
  · skip
    refine sm_aloadV_n (pc := 19) (n := 0) dX9_readsSlot_19 rfl ?_
    refine gfC_X9_370 (pc := 20) (m0 := 6) rfl dX9_readsSlot_20 ?_
    refine sm_cS (pc := 23) (n := 1) (mc := 0) (ms := 0) (zMet_str m_X9_isSlott) (cr_X9_319 (X := X_X9_readsSlot) (fr := 3) (frc := 2) (pc := 23) (mc := 0) (ms := 0) rfl (by decide) dX9_readsSlot_23) ?_
    refine sm_ifS_ne (pc := 26) (tgt := 39) dX9_readsSlot_26 (by decide) ?_ ?_
    · skip
      refine sm_iconst (pc := 39) dX9_readsSlot_39 zc_i_0 ?_
      refine sm_istore_n (pc := 40) (n := 1) dX9_readsSlot_40 rfl ?_
      exact (sm_loopJ (j := 1) (fun G1 hG1 r41 hr41 => @slX9_readsSlott_41 d G1 P r41 hr41) _).use
    · skip
      refine sm_aloadV_n (pc := 29) (n := 0) dX9_readsSlot_29 rfl ?_
      refine sm_iconst (pc := 30) dX9_readsSlot_30 zc_i_4 ?_
      refine sm_aloadV_n (pc := 31) (n := 0) dX9_readsSlot_31 rfl ?_
      refine gf_X9_367 (pc := 32) rfl dX9_readsSlot_32 ?_
      refine sm_cV (pc := 35) (ci := 9) (n := 3) (mc := 0) (ms := 0) rfl (zMet_str m_X9_failst) (cr_X9_377 (X := X_X9_readsSlot) (fr := 3) (frc := 1) (pc := 35) (mc := 0) (ms := 0) rfl (by decide) dX9_readsSlot_35) ?_
      exact sm_zreturn (pc := 38) dX9_readsSlot_38 rfl
  · skip
    refine sm_iconst (pc := 17) dX9_readsSlot_17 zc_i_0 ?_
    exact sm_zreturn (pc := 18) dX9_readsSlot_18 rfl
noncomputable def f_X9_readsSlott {d : Nat} : List zV → zH d → zP d → Bool := zfn 2 (b_X9_readsSlott )
theorem m_X9_readsSlott {d : Nat} : zMet (d := d) X_X9_readsSlot yX9_readsSlot 3 (f_X9_readsSlott ) := zmet_mk (X := X_X9_readsSlot) (by decide) rfl rfl (fun P => s_X9_readsSlott P)

noncomputable def lX9_readsInnert_78 {d : Nat} (f1 : List zV → zH d → zP d → Bool) (P : zP d) (r78 : zK d) : zK d := (xild 1 (xaldV 0 (xgfI 25 2 (xcmpS tgeR rlGe rhS rlS rhLt (xaldV 0 (xdup (xgfI 25 59 (xpI 1 (xbin zsubR (xpfI 25 59 (xpI 1 (xzret P)))))))) (xaldV 0 (xgfR 25 58 (xild 1 (xaldV 0 (xgfR 25 56 (xpI 11 (xaldV 0 (xgfI 25 59 (xbin zmulR (xild 1 (xbin zaddR (xlal (xlas (xincR 1 1 r78))))))))))))))))))
set_option maxRecDepth 100000 in
set_option maxHeartbeats 4000000 in
theorem slX9_readsInnert_78 {d : Nat} [zGh] (n1 : Nat) (f1 : List zV → zH d → zP d → Bool) (hf1 : zMet X_X9_readsSum yX9_readsSum n1 f1) (P : zP d) (r78 : zK d) (hr78 : zSimJ 1 X_X9_readsInner (n1 + 2) P 78 r78) : zSim X_X9_readsInner (n1 + 2) P 78 (lX9_readsInnert_78 f1 P r78) := by
  unfold lX9_readsInnert_78
  refine sm_iload_n (pc := 78) (n := 1) dX9_readsInner_78 rfl ?_
  refine sm_aloadV_n (pc := 79) (n := 0) dX9_readsInner_79 rfl ?_
  refine gf_X9_153 (pc := 80) rfl dX9_readsInner_80 ?_
  refine sm_icmpS_ge (pc := 83) (tgt := 112) dX9_readsInner_83 (by decide) ?_ ?_
  · skip
    refine sm_aloadV_n (pc := 112) (n := 0) dX9_readsInner_112 rfl ?_
    refine sm_dup (pc := 113) dX9_readsInner_113 ?_
    refine gf_X9_396 (pc := 114) rfl dX9_readsInner_114 ?_
    refine sm_iconst (pc := 117) dX9_readsInner_117 zc_i_1 ?_
    refine sm_isubR (pc := 118) dX9_readsInner_118 ?_
    refine pf_X9_396 (pc := 119) rfl dX9_readsInner_119 ?_
    refine sm_iconst (pc := 122) dX9_readsInner_122 zc_i_1 ?_
    exact sm_zreturn (pc := 123) dX9_readsInner_123 rfl
  · skip
    refine sm_aloadV_n (pc := 86) (n := 0) dX9_readsInner_86 rfl ?_
    refine gf_X9_140 (pc := 87) rfl dX9_readsInner_87 ?_
    refine sm_iload_n (pc := 90) (n := 1) dX9_readsInner_90 rfl ?_
    refine sm_aloadV_n (pc := 91) (n := 0) dX9_readsInner_91 rfl ?_
    refine gf_X9_134 (pc := 92) rfl dX9_readsInner_92 ?_
    refine sm_bipush (pc := 95) dX9_readsInner_95 zc_b_11 ?_
    refine sm_aloadV_n (pc := 97) (n := 0) dX9_readsInner_97 rfl ?_
    refine gf_X9_396 (pc := 98) rfl dX9_readsInner_98 ?_
    refine sm_imulR (pc := 101) dX9_readsInner_101 ?_
    refine sm_iload_n (pc := 102) (n := 1) dX9_readsInner_102 rfl ?_
    refine sm_iaddR (pc := 103) dX9_readsInner_103 ?_
    refine sm_laload (pc := 104) dX9_readsInner_104 ?_
    refine sm_lastore (pc := 105) dX9_readsInner_105 ?_
    refine sm_iincR (pc := 106) (n := 1) dX9_readsInner_106 zc_i_1 ?_
    refine sm_goto (pc := 109) (tgt := 78) dX9_readsInner_109 (by decide) ?_
    exact hr78.use
noncomputable def b_X9_readsInnert {d : Nat} (f1 : List zV → zH d → zP d → Bool) (P : zP d) : zK d := (xaldV 0 (xgfI 25 59 (xpI 4 (xcmpS teqR rlEq rhEq rlNe rhNe (xaldV 0 (xpI 5 (xaldV 0 (xgfT 25 47 (xcV 25 3 0 0 (zstr f_X9_failst) (xzret P)))))) (xai 25 47 (xaldV 0 (xdup (xgfI 25 59 (xpI 1 (xbin zaddR (xpfI 25 59 (xaldV 0 (xcV 25 1 0 0 (zstr f1) (xif0S teqR rlEq rhEq rlNe rhNe (xpI 0 (xzret P)) (xaldV 0 (xcV 25 1 0 0 (zstr g_X9_see) (xpI 41 (xcmpS teqR rlEq rhEq rlNe rhNe (xai 25 47 (xpI 0 (xist 1 (xloop (fun r78 => (lX9_readsInnert_78 f1 P r78)) 100000)))) (xaldV 0 (xpI 1 (xaldV 0 (xgfT 25 47 (xcV 25 3 0 0 (zstr f_X9_failst) (xzret P))))))))))))))))))))))))
set_option maxRecDepth 100000 in
set_option maxHeartbeats 4000000 in
theorem s_X9_readsInnert {d : Nat} [zGh] (n1 : Nat) (f1 : List zV → zH d → zP d → Bool) (hf1 : zMet X_X9_readsSum yX9_readsSum n1 f1) (P : zP d) : zSim X_X9_readsInner (n1 + 2) P 0 (b_X9_readsInnert f1 P) := by
  unfold b_X9_readsInnert
  refine sm_aloadV_n (pc := 0) (n := 0) dX9_readsInner_0 rfl ?_
  refine gf_X9_396 (pc := 1) rfl dX9_readsInner_1 ?_
  refine sm_iconst (pc := 4) dX9_readsInner_4 zc_i_4 ?_
  refine sm_icmpS_ne (pc := 5) (tgt := 18) dX9_readsInner_5 (by decide) ?_ ?_
  · skip
    refine sm_ai (pc := 18) (ci := 9) (n := 47) (C := RX9) (T := TX9) (N := 63) rfl rfl rfl zc_i_1 inz9 rfl (by decide) wd_1065 rfl dX9_readsInner_18 rfl dX9_readsInner_19 dX9_readsInner_20 dX9_readsInner_23 dX9_readsInner_24 (zput (C := RX9) (T := TX9) (N := 63) (ty0 := tyX9) (ty := .int) inz9 tyX9_ok nmX9 rfl (by decide) wd_1065 rfl rfl dX9_readsInner_25) ?_
    refine sm_aloadV_n (pc := 28) (n := 0) dX9_readsInner_28 rfl ?_
    refine sm_dup (pc := 29) dX9_readsInner_29 ?_
    refine gf_X9_396 (pc := 30) rfl dX9_readsInner_30 ?_
    refine sm_iconst (pc := 33) dX9_readsInner_33 zc_i_1 ?_
    refine sm_iaddR (pc := 34) dX9_readsInner_34 ?_
    refine pf_X9_396 (pc := 35) rfl dX9_readsInner_35 ?_
    refine sm_aloadV_n (pc := 38) (n := 0) dX9_readsInner_38 rfl ?_
    refine sm_cV (pc := 39) (ci := 9) (n := 1) (mc := 0) (ms := 0) rfl (zMet_str hf1) (cr_X9_399 (X := X_X9_readsInner) (fr := n1 + 2) (frc := n1) (pc := 39) (mc := 0) (ms := 0) rfl (by omega) dX9_readsInner_39) ?_
    refine sm_ifS_ne (pc := 42) (tgt := 47) dX9_readsInner_42 (by decide) ?_ ?_
    · skip
      refine sm_aloadV_n (pc := 47) (n := 0) dX9_readsInner_47 rfl ?_
      refine sm_cV (pc := 48) (ci := 9) (n := 1) (mc := 0) (ms := 0) rfl (zMet_str mg_X9_see) (cr_X9_364 (X := X_X9_readsInner) (fr := n1 + 2) (frc := 1) (pc := 48) (mc := 0) (ms := 0) rfl (by omega) dX9_readsInner_48) ?_
      refine sm_bipush (pc := 51) dX9_readsInner_51 zc_b_41 ?_
      refine sm_icmpS_eq (pc := 53) (tgt := 66) dX9_readsInner_53 (by decide) ?_ ?_
      · skip
        refine sm_ai (pc := 66) (ci := 9) (n := 47) (C := RX9) (T := TX9) (N := 63) rfl rfl rfl zc_i_1 inz9 rfl (by decide) wd_1065 rfl dX9_readsInner_66 rfl dX9_readsInner_67 dX9_readsInner_68 dX9_readsInner_71 dX9_readsInner_72 (zput (C := RX9) (T := TX9) (N := 63) (ty0 := tyX9) (ty := .int) inz9 tyX9_ok nmX9 rfl (by decide) wd_1065 rfl rfl dX9_readsInner_73) ?_
        refine sm_iconst (pc := 76) dX9_readsInner_76 zc_i_0 ?_
        refine sm_istore_n (pc := 77) (n := 1) dX9_readsInner_77 rfl ?_
        exact (sm_loopJ (j := 1) (fun G1 hG1 r78 hr78 => @slX9_readsInnert_78 d G1 n1 f1 hf1 P r78 hr78) _).use
      · skip
        refine sm_aloadV_n (pc := 56) (n := 0) dX9_readsInner_56 rfl ?_
        refine sm_iconst (pc := 57) dX9_readsInner_57 zc_i_1 ?_
        refine sm_aloadV_n (pc := 58) (n := 0) dX9_readsInner_58 rfl ?_
        refine gfT_X9_353 (pc := 59) rfl dX9_readsInner_59 ?_
        refine sm_cV (pc := 62) (ci := 9) (n := 3) (mc := 0) (ms := 0) rfl (zMet_str m_X9_failst) (cr_X9_377 (X := X_X9_readsInner) (fr := n1 + 2) (frc := 1) (pc := 62) (mc := 0) (ms := 0) rfl (by omega) dX9_readsInner_62) ?_
        exact sm_zreturn (pc := 65) dX9_readsInner_65 rfl
    · skip
      refine sm_iconst (pc := 45) dX9_readsInner_45 zc_i_0 ?_
      exact sm_zreturn (pc := 46) dX9_readsInner_46 rfl
  · skip
    refine sm_aloadV_n (pc := 8) (n := 0) dX9_readsInner_8 rfl ?_
    refine sm_iconst (pc := 9) dX9_readsInner_9 zc_i_5 ?_
    refine sm_aloadV_n (pc := 10) (n := 0) dX9_readsInner_10 rfl ?_
    refine gfT_X9_353 (pc := 11) rfl dX9_readsInner_11 ?_
    refine sm_cV (pc := 14) (ci := 9) (n := 3) (mc := 0) (ms := 0) rfl (zMet_str m_X9_failst) (cr_X9_377 (X := X_X9_readsInner) (fr := n1 + 2) (frc := 1) (pc := 14) (mc := 0) (ms := 0) rfl (by omega) dX9_readsInner_14) ?_
    exact sm_zreturn (pc := 17) dX9_readsInner_17 rfl
noncomputable def f_X9_readsInnert {d : Nat} (f1 : List zV → zH d → zP d → Bool) : List zV → zH d → zP d → Bool := zfn 2 (b_X9_readsInnert f1 )
theorem m_X9_readsInnert {d : Nat} (n1 : Nat) (f1 : List zV → zH d → zP d → Bool) (hf1 : zMet X_X9_readsSum yX9_readsSum n1 f1) : zMet (d := d) X_X9_readsInner yX9_readsInner (n1 + 2) (f_X9_readsInnert f1 ) := zmet_mk (X := X_X9_readsInner) (by decide) rfl rfl (fun P => s_X9_readsInnert n1 f1 hf1 P)

noncomputable def bX9_readsFactort_166 {d : Nat} (f1 : List zV → zH d → zP d → Bool) (f2 : List zV → zH d → zP d → Bool) (f3 : List zV → zH d → zP d → Bool) (P : zP d) : zK d := (xild 2 (xzret P))
set_option maxRecDepth 100000 in
set_option maxHeartbeats 4000000 in
theorem sbX9_readsFactort_166 {d : Nat} [zGh] (n1 n2 n3 : Nat) (f1 : List zV → zH d → zP d → Bool) (f2 : List zV → zH d → zP d → Bool) (f3 : List zV → zH d → zP d → Bool) (hf1 : zMet X_X9_readsInner yX9_readsInner n1 f1) (hf2 : zMet X_X9_readsNamed yX9_readsNamed n2 f2) (hf3 : zMet X_X9_readsSlot yX9_readsSlot n3 f3) (P : zP d) : zSim X_X9_readsFactor (n1 + n2 + n3 + 3) P 166 (bX9_readsFactort_166 f1 f2 f3 P) := by
  unfold bX9_readsFactort_166
  refine sm_iload_n (pc := 166) (n := 2) dX9_readsFactor_166 rfl ?_
  exact sm_zreturn (pc := 167) dX9_readsFactor_167 rfl
noncomputable def bX9_readsFactort_152 {d : Nat} (f1 : List zV → zH d → zP d → Bool) (f2 : List zV → zH d → zP d → Bool) (f3 : List zV → zH d → zP d → Bool) (P : zP d) : zK d := (xild 2 (xjoin (bX9_readsFactort_166 f1 f2 f3 P) (fun j166 => (xif0S teqR rlEq rhEq rlNe rhNe j166 (xaldV 0 (xdup (xgfI 25 53 (xpI 1 (xbin zsubR (xpfI 25 53 j166))))))))))
set_option maxRecDepth 100000 in
set_option maxHeartbeats 4000000 in
theorem sbX9_readsFactort_152 {d : Nat} [zGh] (n1 n2 n3 : Nat) (f1 : List zV → zH d → zP d → Bool) (f2 : List zV → zH d → zP d → Bool) (f3 : List zV → zH d → zP d → Bool) (hf1 : zMet X_X9_readsInner yX9_readsInner n1 f1) (hf2 : zMet X_X9_readsNamed yX9_readsNamed n2 f2) (hf3 : zMet X_X9_readsSlot yX9_readsSlot n3 f3) (P : zP d) : zSim X_X9_readsFactor (n1 + n2 + n3 + 3) P 152 (bX9_readsFactort_152 f1 f2 f3 P) := by
  unfold bX9_readsFactort_152
  refine sm_iload_n (pc := 152) (n := 2) dX9_readsFactor_152 rfl ?_
  refine sm_joinJ (pc := 153) (pc' := 166) (j := 1) (fun G0 hG0 => @sbX9_readsFactort_166 d G0 n1 n2 n3 f1 f2 f3 hf1 hf2 hf3 P) (fun j166 hj166 => ?_)
  refine sm_ifS_eq (pc := 153) (tgt := 166) dX9_readsFactor_153 (by decide) ?_ ?_
  · skip
    exact hj166.use
  · skip
    refine sm_aloadV_n (pc := 156) (n := 0) dX9_readsFactor_156 rfl ?_
    refine sm_dup (pc := 157) dX9_readsFactor_157 ?_
    refine gf_X9_359 (pc := 158) rfl dX9_readsFactor_158 ?_
    refine sm_iconst (pc := 161) dX9_readsFactor_161 zc_i_1 ?_
    refine sm_isubR (pc := 162) dX9_readsFactor_162 ?_
    refine pf_X9_359 (pc := 163) rfl dX9_readsFactor_163 ?_
    exact hj166.use
noncomputable def bX9_readsFactort_47 {d : Nat} (f1 : List zV → zH d → zP d → Bool) (f2 : List zV → zH d → zP d → Bool) (f3 : List zV → zH d → zP d → Bool) (P : zP d) (j152 : zK d) : zK d := (xaldV 0 (xild 1 (xcV 25 2 0 0 (zstr f2) (xist 2 j152))))
set_option maxRecDepth 100000 in
set_option maxHeartbeats 4000000 in
theorem sbX9_readsFactort_47 {d : Nat} [zGh] (n1 n2 n3 : Nat) (f1 : List zV → zH d → zP d → Bool) (f2 : List zV → zH d → zP d → Bool) (f3 : List zV → zH d → zP d → Bool) (hf1 : zMet X_X9_readsInner yX9_readsInner n1 f1) (hf2 : zMet X_X9_readsNamed yX9_readsNamed n2 f2) (hf3 : zMet X_X9_readsSlot yX9_readsSlot n3 f3) (P : zP d) (j152 : zK d) (hj152 : zSimJ 1 X_X9_readsFactor (n1 + n2 + n3 + 3) P 152 j152) : zSim X_X9_readsFactor (n1 + n2 + n3 + 3) P 47 (bX9_readsFactort_47 f1 f2 f3 P j152) := by
  unfold bX9_readsFactort_47
  refine sm_aloadV_n (pc := 47) (n := 0) dX9_readsFactor_47 rfl ?_
  refine sm_iload_n (pc := 48) (n := 1) dX9_readsFactor_48 rfl ?_
  refine sm_cV (pc := 49) (ci := 9) (n := 2) (mc := 0) (ms := 0) rfl (zMet_str hf2) (cr_X9_408 (X := X_X9_readsFactor) (fr := n1 + n2 + n3 + 3) (frc := n2) (pc := 49) (mc := 0) (ms := 0) rfl (by omega) dX9_readsFactor_49) ?_
  refine sm_istore_n (pc := 52) (n := 2) dX9_readsFactor_52 rfl ?_
  refine sm_goto (pc := 53) (tgt := 152) dX9_readsFactor_53 (by decide) ?_
  exact hj152.use
noncomputable def lX9_readsFactort_127 {d : Nat} (f1 : List zV → zH d → zP d → Bool) (f2 : List zV → zH d → zP d → Bool) (f3 : List zV → zH d → zP d → Bool) (P : zP d) (j152 : zK d) (r127 : zK d) : zK d := (xild 3 (xaldV 0 (xgfI 25 2 (xcmpS tgeR rlGe rhS rlS rhLt j152 (xaldV 0 (xgfR 25 58 (xild 3 (xaldV 0 (xgfI 25 54 (xi2lR (xlas (xincR 3 1 r127))))))))))))
set_option maxRecDepth 100000 in
set_option maxHeartbeats 4000000 in
theorem slX9_readsFactort_127 {d : Nat} [zGh] (n1 n2 n3 : Nat) (f1 : List zV → zH d → zP d → Bool) (f2 : List zV → zH d → zP d → Bool) (f3 : List zV → zH d → zP d → Bool) (hf1 : zMet X_X9_readsInner yX9_readsInner n1 f1) (hf2 : zMet X_X9_readsNamed yX9_readsNamed n2 f2) (hf3 : zMet X_X9_readsSlot yX9_readsSlot n3 f3) (P : zP d) (j152 : zK d) (r127 : zK d) (hj152 : zSimJ 1 X_X9_readsFactor (n1 + n2 + n3 + 3) P 152 j152) (hr127 : zSimJ 1 X_X9_readsFactor (n1 + n2 + n3 + 3) P 127 r127) : zSim X_X9_readsFactor (n1 + n2 + n3 + 3) P 127 (lX9_readsFactort_127 f1 f2 f3 P j152 r127) := by
  unfold lX9_readsFactort_127
  refine sm_iload_n (pc := 127) (n := 3) dX9_readsFactor_127 rfl ?_
  refine sm_aloadV_n (pc := 128) (n := 0) dX9_readsFactor_128 rfl ?_
  refine gf_X9_153 (pc := 129) rfl dX9_readsFactor_129 ?_
  refine sm_icmpS_ge (pc := 132) (tgt := 152) dX9_readsFactor_132 (by decide) ?_ ?_
  · skip
    exact hj152.use
  · skip
    refine sm_aloadV_n (pc := 135) (n := 0) dX9_readsFactor_135 rfl ?_
    refine gf_X9_140 (pc := 136) rfl dX9_readsFactor_136 ?_
    refine sm_iload_n (pc := 139) (n := 3) dX9_readsFactor_139 rfl ?_
    refine sm_aloadV_n (pc := 140) (n := 0) dX9_readsFactor_140 rfl ?_
    refine gf_X9_370 (pc := 141) rfl dX9_readsFactor_141 ?_
    refine sm_i2lR (pc := 144) dX9_readsFactor_144 ?_
    refine sm_lastore (pc := 145) dX9_readsFactor_145 ?_
    refine sm_iincR (pc := 146) (n := 3) dX9_readsFactor_146 zc_i_1 ?_
    refine sm_goto (pc := 149) (tgt := 127) dX9_readsFactor_149 (by decide) ?_
    exact hr127.use
noncomputable def lX9_readsFactort_88 {d : Nat} (f1 : List zV → zH d → zP d → Bool) (f2 : List zV → zH d → zP d → Bool) (f3 : List zV → zH d → zP d → Bool) (P : zP d) (j152 : zK d) (r88 : zK d) : zK d := (xild 3 (xaldV 0 (xgfI 25 2 (xcmpS tgeR rlGe rhS rlS rhLt (xpI 1 (xist 2 j152)) (xaldV 0 (xgfR 25 58 (xild 3 (xaldV 0 (xgfR 25 9 (xild 3 (xalQ 0 (xi2lR (xlas (xincR 3 1 r88))))))))))))))
set_option maxRecDepth 100000 in
set_option maxHeartbeats 4000000 in
theorem slX9_readsFactort_88 {d : Nat} [zGh] (n1 n2 n3 : Nat) (f1 : List zV → zH d → zP d → Bool) (f2 : List zV → zH d → zP d → Bool) (f3 : List zV → zH d → zP d → Bool) (hf1 : zMet X_X9_readsInner yX9_readsInner n1 f1) (hf2 : zMet X_X9_readsNamed yX9_readsNamed n2 f2) (hf3 : zMet X_X9_readsSlot yX9_readsSlot n3 f3) (P : zP d) (j152 : zK d) (r88 : zK d) (hj152 : zSimJ 1 X_X9_readsFactor (n1 + n2 + n3 + 3) P 152 j152) (hr88 : zSimJ 1 X_X9_readsFactor (n1 + n2 + n3 + 3) P 88 r88) : zSim X_X9_readsFactor (n1 + n2 + n3 + 3) P 88 (lX9_readsFactort_88 f1 f2 f3 P j152 r88) := by
  unfold lX9_readsFactort_88
  refine sm_iload_n (pc := 88) (n := 3) dX9_readsFactor_88 rfl ?_
  refine sm_aloadV_n (pc := 89) (n := 0) dX9_readsFactor_89 rfl ?_
  refine gf_X9_153 (pc := 90) rfl dX9_readsFactor_90 ?_
  refine sm_icmpS_ge (pc := 93) (tgt := 115) dX9_readsFactor_93 (by decide) ?_ ?_
  · skip
    refine sm_iconst (pc := 115) dX9_readsFactor_115 zc_i_1 ?_
    refine sm_istore_n (pc := 116) (n := 2) dX9_readsFactor_116 rfl ?_
    refine sm_goto (pc := 117) (tgt := 152) dX9_readsFactor_117 (by decide) ?_
    exact hj152.use
  · skip
    refine sm_aloadV_n (pc := 96) (n := 0) dX9_readsFactor_96 rfl ?_
    refine gf_X9_140 (pc := 97) rfl dX9_readsFactor_97 ?_
    refine sm_iload_n (pc := 100) (n := 3) dX9_readsFactor_100 rfl ?_
    refine sm_aloadV_n (pc := 101) (n := 0) dX9_readsFactor_101 rfl ?_
    refine gf_X9_29 (pc := 102) rfl dX9_readsFactor_102 ?_
    refine sm_iload_n (pc := 105) (n := 3) dX9_readsFactor_105 rfl ?_
    refine sm_ialoadQ (pc := 106) dX9_readsFactor_106 ?_
    refine sm_i2lR (pc := 107) dX9_readsFactor_107 ?_
    refine sm_lastore (pc := 108) dX9_readsFactor_108 ?_
    refine sm_iincR (pc := 109) (n := 3) dX9_readsFactor_109 zc_i_1 ?_
    refine sm_goto (pc := 112) (tgt := 88) dX9_readsFactor_112 (by decide) ?_
    exact hr88.use
noncomputable def cX9_readsFactort_71 {d : Nat} (f1 : List zV → zH d → zP d → Bool) (f2 : List zV → zH d → zP d → Bool) (f3 : List zV → zH d → zP d → Bool) (P : zP d) (j152 : zK d) : zK d := (xpI 83 (xcmpS teqR rlEq rhEq rlNe rhNe (xai 25 47 (xpI 0 (xist 3 (xloop (fun r88 => (lX9_readsFactort_88 f1 f2 f3 P j152 r88)) 100000)))) (xaldV 0 (xcV 25 1 0 0 (zstr g_X9_readsNumber) (xist 2 (xpI 0 (xist 3 (xloop (fun r127 => (lX9_readsFactort_127 f1 f2 f3 P j152 r127)) 100000))))))))
set_option maxRecDepth 100000 in
set_option maxHeartbeats 4000000 in
theorem scX9_readsFactort_71 {d : Nat} [zGh] (n1 n2 n3 : Nat) (f1 : List zV → zH d → zP d → Bool) (f2 : List zV → zH d → zP d → Bool) (f3 : List zV → zH d → zP d → Bool) (hf1 : zMet X_X9_readsInner yX9_readsInner n1 f1) (hf2 : zMet X_X9_readsNamed yX9_readsNamed n2 f2) (hf3 : zMet X_X9_readsSlot yX9_readsSlot n3 f3) (P : zP d) (j152 : zK d) (hj152 : zSimJ 1 X_X9_readsFactor (n1 + n2 + n3 + 3) P 152 j152) : zSim X_X9_readsFactor (n1 + n2 + n3 + 3) P 71 (cX9_readsFactort_71 f1 f2 f3 P j152) := by
  unfold cX9_readsFactort_71
  refine sm_bipush (pc := 71) dX9_readsFactor_71 zc_b_83 ?_
  refine sm_icmpS_ne (pc := 73) (tgt := 120) dX9_readsFactor_73 (by decide) ?_ ?_
  · skip
    refine sm_aloadV_n (pc := 120) (n := 0) dX9_readsFactor_120 rfl ?_
    refine sm_cV (pc := 121) (ci := 9) (n := 1) (mc := 0) (ms := 0) rfl (zMet_str mg_X9_readsNumber) (cr_X9_383 (X := X_X9_readsFactor) (fr := n1 + n2 + n3 + 3) (frc := 2) (pc := 121) (mc := 0) (ms := 0) rfl (by omega) dX9_readsFactor_121) ?_
    refine sm_istore_n (pc := 124) (n := 2) dX9_readsFactor_124 rfl ?_
    refine sm_iconst (pc := 125) dX9_readsFactor_125 zc_i_0 ?_
    refine sm_istore_n (pc := 126) (n := 3) dX9_readsFactor_126 rfl ?_
    exact (sm_loopJ (j := 1) (fun G1 hG1 r127 hr127 => @slX9_readsFactort_127 d G1 n1 n2 n3 f1 f2 f3 hf1 hf2 hf3 P j152 r127 (hj152.mv hG1 (by decide)) hr127) _).use
  · skip
    refine sm_ai (pc := 76) (ci := 9) (n := 47) (C := RX9) (T := TX9) (N := 63) rfl rfl rfl zc_i_1 inz9 rfl (by decide) wd_1065 rfl dX9_readsFactor_76 rfl dX9_readsFactor_77 dX9_readsFactor_78 dX9_readsFactor_81 dX9_readsFactor_82 (zput (C := RX9) (T := TX9) (N := 63) (ty0 := tyX9) (ty := .int) inz9 tyX9_ok nmX9 rfl (by decide) wd_1065 rfl rfl dX9_readsFactor_83) ?_
    refine sm_iconst (pc := 86) dX9_readsFactor_86 zc_i_0 ?_
    refine sm_istore_n (pc := 87) (n := 3) dX9_readsFactor_87 rfl ?_
    exact (sm_loopJ (j := 1) (fun G1 hG1 r88 hr88 => @slX9_readsFactort_88 d G1 n1 n2 n3 f1 f2 f3 hf1 hf2 hf3 P j152 r88 (hj152.mv hG1 (by decide)) hr88) _).use
noncomputable def cX9_readsFactort_63 {d : Nat} (f1 : List zV → zH d → zP d → Bool) (f2 : List zV → zH d → zP d → Bool) (f3 : List zV → zH d → zP d → Bool) (P : zP d) (j152 : zK d) : zK d := (xcV 25 1 0 0 (zstr f3) (xist 2 j152))
set_option maxRecDepth 100000 in
set_option maxHeartbeats 4000000 in
theorem scX9_readsFactort_63 {d : Nat} [zGh] (n1 n2 n3 : Nat) (f1 : List zV → zH d → zP d → Bool) (f2 : List zV → zH d → zP d → Bool) (f3 : List zV → zH d → zP d → Bool) (hf1 : zMet X_X9_readsInner yX9_readsInner n1 f1) (hf2 : zMet X_X9_readsNamed yX9_readsNamed n2 f2) (hf3 : zMet X_X9_readsSlot yX9_readsSlot n3 f3) (P : zP d) (j152 : zK d) (hj152 : zSimJ 1 X_X9_readsFactor (n1 + n2 + n3 + 3) P 152 j152) : zSim X_X9_readsFactor (n1 + n2 + n3 + 3) P 63 (cX9_readsFactort_63 f1 f2 f3 P j152) := by
  unfold cX9_readsFactort_63
  refine sm_cV (pc := 63) (ci := 9) (n := 1) (mc := 0) (ms := 0) rfl (zMet_str hf3) (cr_X9_411 (X := X_X9_readsFactor) (fr := n1 + n2 + n3 + 3) (frc := n3) (pc := 63) (mc := 0) (ms := 0) rfl (by omega) dX9_readsFactor_63) ?_
  refine sm_istore_n (pc := 66) (n := 2) dX9_readsFactor_66 rfl ?_
  refine sm_goto (pc := 67) (tgt := 152) dX9_readsFactor_67 (by decide) ?_
  exact hj152.use
noncomputable def b_X9_readsFactort {d : Nat} (f1 : List zV → zH d → zP d → Bool) (f2 : List zV → zH d → zP d → Bool) (f3 : List zV → zH d → zP d → Bool) (P : zP d) : zK d := (xaldV 0 (xcV 25 1 0 0 (zstr f_X9_begint) (xaldV 0 (xcV 25 1 0 0 (zstr g_X9_see) (xist 1 (xild 1 (xpI 40 (xjoin (bX9_readsFactort_152 f1 f2 f3 P) (fun j152 => (xcmpS teqR rlEq rhEq rlNe rhNe (xaldV 0 (xcV 25 1 0 0 (zstr f1) (xist 2 j152))) (xild 1 (xpI 91 (xjoin (bX9_readsFactort_47 f1 f2 f3 P j152) (fun j47 => (xcmpS teqR rlEq rhEq rlNe rhNe j47 (xild 1 (xpI 68 (xcmpS teqR rlEq rhEq rlNe rhNe j47 (xild 1 (xpI 80 (xcmpS teqR rlEq rhEq rlNe rhNe j47 (xild 1 (xpI 77 (xcmpS teqR rlEq rhEq rlNe rhNe j47 (xild 1 (xpI 88 (xcmpS teqR rlEq rhEq rlNe rhNe (xaldV 0 (cX9_readsFactort_63 f1 f2 f3 P j152)) (xild 1 (cX9_readsFactort_71 f1 f2 f3 P j152)))))))))))))))))))))))))))))
set_option maxRecDepth 100000 in
set_option maxHeartbeats 4000000 in
theorem s_X9_readsFactort {d : Nat} [zGh] (n1 n2 n3 : Nat) (f1 : List zV → zH d → zP d → Bool) (f2 : List zV → zH d → zP d → Bool) (f3 : List zV → zH d → zP d → Bool) (hf1 : zMet X_X9_readsInner yX9_readsInner n1 f1) (hf2 : zMet X_X9_readsNamed yX9_readsNamed n2 f2) (hf3 : zMet X_X9_readsSlot yX9_readsSlot n3 f3) (P : zP d) : zSim X_X9_readsFactor (n1 + n2 + n3 + 3) P 0 (b_X9_readsFactort f1 f2 f3 P) := by
  unfold b_X9_readsFactort
  refine sm_aloadV_n (pc := 0) (n := 0) dX9_readsFactor_0 rfl ?_
  refine sm_cV (pc := 1) (ci := 9) (n := 1) (mc := 0) (ms := 0) rfl (zMet_str m_X9_begint) (cr_X9_402 (X := X_X9_readsFactor) (fr := n1 + n2 + n3 + 3) (frc := 2) (pc := 1) (mc := 0) (ms := 0) rfl (by omega) dX9_readsFactor_1) ?_
  refine sm_aloadV_n (pc := 4) (n := 0) dX9_readsFactor_4 rfl ?_
  refine sm_cV (pc := 5) (ci := 9) (n := 1) (mc := 0) (ms := 0) rfl (zMet_str mg_X9_see) (cr_X9_364 (X := X_X9_readsFactor) (fr := n1 + n2 + n3 + 3) (frc := 1) (pc := 5) (mc := 0) (ms := 0) rfl (by omega) dX9_readsFactor_5) ?_
  refine sm_istore_n (pc := 8) (n := 1) dX9_readsFactor_8 rfl ?_
  refine sm_iload_n (pc := 9) (n := 1) dX9_readsFactor_9 rfl ?_
  refine sm_bipush (pc := 10) dX9_readsFactor_10 zc_b_40 ?_
  refine sm_joinJ (pc := 12) (pc' := 152) (j := 1) (fun G0 hG0 => @sbX9_readsFactort_152 d G0 n1 n2 n3 f1 f2 f3 hf1 hf2 hf3 P) (fun j152 hj152 => ?_)
  refine sm_icmpS_ne (pc := 12) (tgt := 23) dX9_readsFactor_12 (by decide) ?_ ?_
  · skip
    refine sm_iload_n (pc := 23) (n := 1) dX9_readsFactor_23 rfl ?_
    refine sm_bipush (pc := 24) dX9_readsFactor_24 zc_b_91 ?_
    refine sm_joinJ (pc := 26) (pc' := 47) (j := 1) (fun G0 hG0 => @sbX9_readsFactort_47 d G0 n1 n2 n3 f1 f2 f3 hf1 hf2 hf3 P j152 (hj152.mv hG0 (by decide))) (fun j47 hj47 => ?_)
    refine sm_icmpS_eq (pc := 26) (tgt := 47) dX9_readsFactor_26 (by decide) ?_ ?_
    · skip
      exact hj47.use
    · skip
      refine sm_iload_n (pc := 29) (n := 1) dX9_readsFactor_29 rfl ?_
      refine sm_bipush (pc := 30) dX9_readsFactor_30 zc_b_68 ?_
      refine sm_icmpS_eq (pc := 32) (tgt := 47) dX9_readsFactor_32 (by decide) ?_ ?_
      · skip
        exact hj47.use
      · skip
        refine sm_iload_n (pc := 35) (n := 1) dX9_readsFactor_35 rfl ?_
        refine sm_bipush (pc := 36) dX9_readsFactor_36 zc_b_80 ?_
        refine sm_icmpS_eq (pc := 38) (tgt := 47) dX9_readsFactor_38 (by decide) ?_ ?_
        · skip
          exact hj47.use
        · skip
          refine sm_iload_n (pc := 41) (n := 1) dX9_readsFactor_41 rfl ?_
          refine sm_bipush (pc := 42) dX9_readsFactor_42 zc_b_77 ?_
          refine sm_icmpS_ne (pc := 44) (tgt := 56) dX9_readsFactor_44 (by decide) ?_ ?_
          · skip
            refine sm_iload_n (pc := 56) (n := 1) dX9_readsFactor_56 rfl ?_
            refine sm_bipush (pc := 57) dX9_readsFactor_57 zc_b_88 ?_
            refine sm_icmpS_ne (pc := 59) (tgt := 70) dX9_readsFactor_59 (by decide) ?_ ?_
            · skip
              refine sm_iload_n (pc := 70) (n := 1) dX9_readsFactor_70 rfl ?_
              exact scX9_readsFactort_71 n1 n2 n3 f1 f2 f3 hf1 hf2 hf3 P j152 hj152
            · skip
              refine sm_aloadV_n (pc := 62) (n := 0) dX9_readsFactor_62 rfl ?_
              exact scX9_readsFactort_63 n1 n2 n3 f1 f2 f3 hf1 hf2 hf3 P j152 hj152
          · skip
            exact hj47.use
  · skip
    refine sm_aloadV_n (pc := 15) (n := 0) dX9_readsFactor_15 rfl ?_
    refine sm_cV (pc := 16) (ci := 9) (n := 1) (mc := 0) (ms := 0) rfl (zMet_str hf1) (cr_X9_405 (X := X_X9_readsFactor) (fr := n1 + n2 + n3 + 3) (frc := n1) (pc := 16) (mc := 0) (ms := 0) rfl (by omega) dX9_readsFactor_16) ?_
    refine sm_istore_n (pc := 19) (n := 2) dX9_readsFactor_19 rfl ?_
    refine sm_goto (pc := 20) (tgt := 152) dX9_readsFactor_20 (by decide) ?_
    exact hj152.use
noncomputable def f_X9_readsFactort {d : Nat} (f1 : List zV → zH d → zP d → Bool) (f2 : List zV → zH d → zP d → Bool) (f3 : List zV → zH d → zP d → Bool) : List zV → zH d → zP d → Bool := zfn 4 (b_X9_readsFactort f1 f2 f3 )
theorem m_X9_readsFactort {d : Nat} (n1 n2 n3 : Nat) (f1 : List zV → zH d → zP d → Bool) (f2 : List zV → zH d → zP d → Bool) (f3 : List zV → zH d → zP d → Bool) (hf1 : zMet X_X9_readsInner yX9_readsInner n1 f1) (hf2 : zMet X_X9_readsNamed yX9_readsNamed n2 f2) (hf3 : zMet X_X9_readsSlot yX9_readsSlot n3 f3) : zMet (d := d) X_X9_readsFactor yX9_readsFactor (n1 + n2 + n3 + 3) (f_X9_readsFactort f1 f2 f3 ) := zmet_mk (X := X_X9_readsFactor) (by decide) rfl rfl (fun P => s_X9_readsFactort n1 n2 n3 f1 f2 f3 hf1 hf2 hf3 P)

noncomputable def bX9_readsTermt_148 {d : Nat} (f1 : List zV → zH d → zP d → Bool) (P : zP d) (r86 : zK d) : zK d := (xist 2 (xaldV 0 (xgfR 25 57 (xpI 11 (xaldV 0 (xgfI 25 59 (xbin zmulR (xild 3 (xbin zaddR (xlld 4 (xaldV 0 (xgfR 25 58 (xild 3 (xlal (xbinj zmulj (xlas (xincR 3 1 r86)))))))))))))))))
set_option maxRecDepth 100000 in
set_option maxHeartbeats 4000000 in
theorem sbX9_readsTermt_148 {d : Nat} [zGh] (n1 : Nat) (f1 : List zV → zH d → zP d → Bool) (hf1 : zMet X_X9_readsFactor yX9_readsFactor n1 f1) (P : zP d) (r86 : zK d) (hr86 : zSimJ 1 X_X9_readsTerm (n1 + 3) P 86 r86) : zSim X_X9_readsTerm (n1 + 3) P 148 (bX9_readsTermt_148 f1 P r86) := by
  unfold bX9_readsTermt_148
  refine sm_istore_n (pc := 148) (n := 2) dX9_readsTerm_148 rfl ?_
  refine sm_aloadV_n (pc := 149) (n := 0) dX9_readsTerm_149 rfl ?_
  refine gf_X9_137 (pc := 150) rfl dX9_readsTerm_150 ?_
  refine sm_bipush (pc := 153) dX9_readsTerm_153 zc_b_11 ?_
  refine sm_aloadV_n (pc := 155) (n := 0) dX9_readsTerm_155 rfl ?_
  refine gf_X9_396 (pc := 156) rfl dX9_readsTerm_156 ?_
  refine sm_imulR (pc := 159) dX9_readsTerm_159 ?_
  refine sm_iload_n (pc := 160) (n := 3) dX9_readsTerm_160 rfl ?_
  refine sm_iaddR (pc := 161) dX9_readsTerm_161 ?_
  refine sm_lload (pc := 162) (n := 4) dX9_readsTerm_162 ?_
  refine sm_aloadV_n (pc := 164) (n := 0) dX9_readsTerm_164 rfl ?_
  refine gf_X9_140 (pc := 165) rfl dX9_readsTerm_165 ?_
  refine sm_iload_n (pc := 168) (n := 3) dX9_readsTerm_168 rfl ?_
  refine sm_laload (pc := 169) dX9_readsTerm_169 ?_
  refine sm_lmul (pc := 170) dX9_readsTerm_170 ?_
  refine sm_lastore (pc := 171) dX9_readsTerm_171 ?_
  refine sm_iincR (pc := 172) (n := 3) dX9_readsTerm_172 zc_i_1 ?_
  refine sm_goto (pc := 175) (tgt := 86) dX9_readsTerm_175 (by decide) ?_
  exact hr86.use
noncomputable def bX9_readsTermt_147 {d : Nat} (f1 : List zV → zH d → zP d → Bool) (P : zP d) (j148 : zK d) : zK d := (xpI 0 j148)
set_option maxRecDepth 100000 in
set_option maxHeartbeats 4000000 in
theorem sbX9_readsTermt_147 {d : Nat} [zGh] (n1 : Nat) (f1 : List zV → zH d → zP d → Bool) (hf1 : zMet X_X9_readsFactor yX9_readsFactor n1 f1) (P : zP d) (j148 : zK d) (hj148 : zSimJ 1 X_X9_readsTerm (n1 + 3) P 148 j148) : zSim X_X9_readsTerm (n1 + 3) P 147 (bX9_readsTermt_147 f1 P j148) := by
  unfold bX9_readsTermt_147
  refine sm_iconst (pc := 147) dX9_readsTerm_147 zc_i_0 ?_
  exact hj148.use
noncomputable def bX9_readsTermt_143 {d : Nat} (f1 : List zV → zH d → zP d → Bool) (P : zP d) (j148 : zK d) : zK d := (xpI 1 j148)
set_option maxRecDepth 100000 in
set_option maxHeartbeats 4000000 in
theorem sbX9_readsTermt_143 {d : Nat} [zGh] (n1 : Nat) (f1 : List zV → zH d → zP d → Bool) (hf1 : zMet X_X9_readsFactor yX9_readsFactor n1 f1) (P : zP d) (j148 : zK d) (hj148 : zSimJ 1 X_X9_readsTerm (n1 + 3) P 148 j148) : zSim X_X9_readsTerm (n1 + 3) P 143 (bX9_readsTermt_143 f1 P j148) := by
  unfold bX9_readsTermt_143
  refine sm_iconst (pc := 143) dX9_readsTerm_143 zc_i_1 ?_
  refine sm_goto (pc := 144) (tgt := 148) dX9_readsTerm_144 (by decide) ?_
  exact hj148.use
noncomputable def cX9_readsTermt_135 {d : Nat} (f1 : List zV → zH d → zP d → Bool) (P : zP d) (j143 : zK d) (j147 : zK d) : zK d := (xabsN (xdvT (xlcmpR (xif0S tleR rlS rhLe rlGt rhS j143 j147))))
set_option maxRecDepth 100000 in
set_option maxHeartbeats 4000000 in
theorem scX9_readsTermt_135 {d : Nat} [zGh] (n1 : Nat) (f1 : List zV → zH d → zP d → Bool) (hf1 : zMet X_X9_readsFactor yX9_readsFactor n1 f1) (P : zP d) (j143 : zK d) (j147 : zK d) (hj143 : zSimJ 1 X_X9_readsTerm (n1 + 3) P 143 j143) (hj147 : zSimJ 1 X_X9_readsTerm (n1 + 3) P 147 j147) : zSim X_X9_readsTerm (n1 + 3) P 135 (cX9_readsTermt_135 f1 P j143 j147) := by
  unfold cX9_readsTermt_135
  refine sm_mabsN (pc := 135) wd_1416 wd_763 wd_6 wd_764 (by omega) dX9_readsTerm_135 ?_
  refine sm_ldivT (pc := 138) dX9_readsTerm_138 ?_
  refine sm_lcmpR (pc := 139) dX9_readsTerm_139 ?_
  refine sm_ifS_gt (pc := 140) (tgt := 147) dX9_readsTerm_140 (by decide) ?_ ?_
  · skip
    exact hj147.use
  · skip
    exact hj143.use
noncomputable def lX9_readsTermt_86 {d : Nat} (f1 : List zV → zH d → zP d → Bool) (P : zP d) (r49 : zK d) (r86 : zK d) : zK d := (xild 3 (xaldV 0 (xgfI 25 2 (xcmpS tgeR rlGe rhS rlS rhLt (xild 2 (xif0S teqR rlEq rhEq rlNe rhNe (xaldV 0 (xpI 6 (xild 1 (xcV 25 3 0 0 (zstr f_X9_failst) (xzret P))))) r49)) (xaldV 0 (xgfR 25 57 (xpI 11 (xaldV 0 (xgfI 25 59 (xbin zmulR (xild 3 (xbin zaddR (xlal (xlst 4 (xild 2 (xjn wkE (zsp [zI 4294967298] 1) (bX9_readsTermt_148 f1 P r86) (fun j148 => (xjoin (bX9_readsTermt_147 f1 P j148) (fun j147 => (xif0S teqR rlEq rhEq rlNe rhNe j147 (xjoin (bX9_readsTermt_143 f1 P j148) (fun j143 => (xlz 4 j143 (xaldV 0 (xgfR 25 58 (xild 3 (xlal (xabsN (xpL 1000000000000 (xlld 4 (cX9_readsTermt_135 f1 P j143 j147)))))))))))))))))))))))))))))))
set_option maxRecDepth 100000 in
set_option maxHeartbeats 4000000 in
theorem slX9_readsTermt_86 {d : Nat} [zGh] (n1 : Nat) (f1 : List zV → zH d → zP d → Bool) (hf1 : zMet X_X9_readsFactor yX9_readsFactor n1 f1) (P : zP d) (r49 : zK d) (r86 : zK d) (hr49 : zSimJ 1 X_X9_readsTerm (n1 + 3) P 49 r49) (hr86 : zSimJ 1 X_X9_readsTerm (n1 + 3) P 86 r86) : zSim X_X9_readsTerm (n1 + 3) P 86 (lX9_readsTermt_86 f1 P r49 r86) := by
  unfold lX9_readsTermt_86
  refine sm_iload_n (pc := 86) (n := 3) dX9_readsTerm_86 rfl ?_
  refine sm_aloadV_n (pc := 87) (n := 0) dX9_readsTerm_87 rfl ?_
  refine gf_X9_153 (pc := 88) rfl dX9_readsTerm_88 ?_
  refine sm_icmpS_ge (pc := 91) (tgt := 178) dX9_readsTerm_91 (by decide) ?_ ?_
  · skip
    refine sm_iload_n (pc := 178) (n := 2) dX9_readsTerm_178 rfl ?_
    refine sm_ifS_ne (pc := 179) (tgt := 190) dX9_readsTerm_179 (by decide) ?_ ?_
    · skip
      refine sm_goto (pc := 190) (tgt := 49) dX9_readsTerm_190 (by decide) ?_
      exact hr49.use
    · skip
      refine sm_aloadV_n (pc := 182) (n := 0) dX9_readsTerm_182 rfl ?_
      refine sm_bipush (pc := 183) dX9_readsTerm_183 zc_b_6 ?_
      refine sm_iload_n (pc := 185) (n := 1) dX9_readsTerm_185 rfl ?_
      refine sm_cV (pc := 186) (ci := 9) (n := 3) (mc := 0) (ms := 0) rfl (zMet_str m_X9_failst) (cr_X9_377 (X := X_X9_readsTerm) (fr := n1 + 3) (frc := 1) (pc := 186) (mc := 0) (ms := 0) rfl (by omega) dX9_readsTerm_186) ?_
      exact sm_zreturn (pc := 189) dX9_readsTerm_189 rfl
  · skip
    refine sm_aloadV_n (pc := 94) (n := 0) dX9_readsTerm_94 rfl ?_
    refine gf_X9_137 (pc := 95) rfl dX9_readsTerm_95 ?_
    refine sm_bipush (pc := 98) dX9_readsTerm_98 zc_b_11 ?_
    refine sm_aloadV_n (pc := 100) (n := 0) dX9_readsTerm_100 rfl ?_
    refine gf_X9_396 (pc := 101) rfl dX9_readsTerm_101 ?_
    refine sm_imulR (pc := 104) dX9_readsTerm_104 ?_
    refine sm_iload_n (pc := 105) (n := 3) dX9_readsTerm_105 rfl ?_
    refine sm_iaddR (pc := 106) dX9_readsTerm_106 ?_
    refine sm_laload (pc := 107) dX9_readsTerm_107 ?_
    refine sm_lstore (pc := 108) (n := 4) dX9_readsTerm_108 ?_
    refine sm_iload_n (pc := 110) (n := 2) dX9_readsTerm_110 rfl ?_
    refine sm_jn (pc := 111) (pc' := 148) (j := 1) wkE_ok (zsp_ok _ _) (fun G0 hG0 => @sbX9_readsTermt_148 d G0 n1 f1 hf1 P r86 (hr86.mv hG0 (by decide))) (fun j148 hj148 => ?_)
    refine sm_joinJ (pc := 111) (pc' := 147) (j := 1) (fun G0 hG0 => @sbX9_readsTermt_147 d G0 n1 f1 hf1 P j148 (hj148.mv hG0 (by decide))) (fun j147 hj147 => ?_)
    refine sm_ifS_eq (pc := 111) (tgt := 147) dX9_readsTerm_111 (by decide) ?_ ?_
    · skip
      exact hj147.use
    · skip
      refine sm_joinJ (pc := 114) (pc' := 143) (j := 1) (fun G0 hG0 => @sbX9_readsTermt_143 d G0 n1 f1 hf1 P j148 (hj148.mv hG0 (by decide))) (fun j143 hj143 => ?_)
      refine sm_lz (pc := 114) (pc' := 116) (n := 4) (tgt := 143) (fun hx hb hl kk => lv_lload hx hb dX9_readsTerm_114 hl kk) dX9_readsTerm_116 rfl dX9_readsTerm_117 dX9_readsTerm_118 (by decide) ?_ ?_
      · skip
        exact hj143.use
      · skip
        refine sm_aloadV_n (pc := 121) (n := 0) dX9_readsTerm_121 rfl ?_
        refine gf_X9_140 (pc := 122) rfl dX9_readsTerm_122 ?_
        refine sm_iload_n (pc := 125) (n := 3) dX9_readsTerm_125 rfl ?_
        refine sm_laload (pc := 126) dX9_readsTerm_126 ?_
        refine sm_mabsN (pc := 127) wd_1416 wd_763 wd_6 wd_764 (by omega) dX9_readsTerm_127 ?_
        refine sm_ldc2 (pc := 130) dX9_readsTerm_130 wd_1417 zc_cl_1000000000000 ?_
        refine sm_lload (pc := 133) (n := 4) dX9_readsTerm_133 ?_
        exact scX9_readsTermt_135 n1 f1 hf1 P j143 j147 hj143 hj147
noncomputable def uX9_readsTermt_73 {d : Nat} (f1 : List zV → zH d → zP d → Bool) (P : zP d) (r49 : zK d) : zK d := (xaldV 0 (xcV 25 1 0 0 (zstr f1) (xif0S teqR rlEq rhEq rlNe rhNe (xpI 0 (xzret P)) (xpI 1 (xist 2 (xpI 0 (xist 3 (xloop (fun r86 => (lX9_readsTermt_86 f1 P r49 r86)) 100000))))))))
set_option maxRecDepth 100000 in
set_option maxHeartbeats 4000000 in
theorem suX9_readsTermt_73 {d : Nat} [zGh] (n1 : Nat) (f1 : List zV → zH d → zP d → Bool) (hf1 : zMet X_X9_readsFactor yX9_readsFactor n1 f1) (P : zP d) (r49 : zK d) (hr49 : zSimJ 1 X_X9_readsTerm (n1 + 3) P 49 r49) : zSim X_X9_readsTerm (n1 + 3) P 73 (uX9_readsTermt_73 f1 P r49) := by
  unfold uX9_readsTermt_73
  refine sm_aloadV_n (pc := 73) (n := 0) dX9_readsTerm_73 rfl ?_
  refine sm_cV (pc := 74) (ci := 9) (n := 1) (mc := 0) (ms := 0) rfl (zMet_str hf1) (cr_X9_418 (X := X_X9_readsTerm) (fr := n1 + 3) (frc := n1) (pc := 74) (mc := 0) (ms := 0) rfl (by omega) dX9_readsTerm_74) ?_
  refine sm_ifS_ne (pc := 77) (tgt := 82) dX9_readsTerm_77 (by decide) ?_ ?_
  · skip
    refine sm_iconst (pc := 82) dX9_readsTerm_82 zc_i_1 ?_
    refine sm_istore_n (pc := 83) (n := 2) dX9_readsTerm_83 rfl ?_
    refine sm_iconst (pc := 84) dX9_readsTerm_84 zc_i_0 ?_
    refine sm_istore_n (pc := 85) (n := 3) dX9_readsTerm_85 rfl ?_
    exact (sm_loopJ (j := 1) (fun G1 hG1 r86 hr86 => @slX9_readsTermt_86 d G1 n1 f1 hf1 P r49 r86 (hr49.mv hG1 (by decide)) hr86) _).use
  · skip
    refine sm_iconst (pc := 80) dX9_readsTerm_80 zc_i_0 ?_
    exact sm_zreturn (pc := 81) dX9_readsTerm_81 rfl
noncomputable def lX9_readsTermt_49 {d : Nat} (f1 : List zV → zH d → zP d → Bool) (P : zP d) (r49 : zK d) : zK d := (xaldV 0 (xcV 25 1 0 0 (zstr g_X9_see) (xpI 42 (xcmpS teqR rlEq rhEq rlNe rhNe (xaldV 0 (xgfT 25 47 (xist 1 (xaiT 25 47 (uX9_readsTermt_73 f1 P r49))))) (xaldV 0 (xdup (xgfI 25 53 (xpI 1 (xbin zsubR (xpfI 25 53 (xpI 1 (xzret P))))))))))))
set_option maxRecDepth 100000 in
set_option maxHeartbeats 4000000 in
theorem slX9_readsTermt_49 {d : Nat} [zGh] (n1 : Nat) (f1 : List zV → zH d → zP d → Bool) (hf1 : zMet X_X9_readsFactor yX9_readsFactor n1 f1) (P : zP d) (r49 : zK d) (hr49 : zSimU 1 X_X9_readsTerm (n1 + 3) P 49 r49) : zSim X_X9_readsTerm (n1 + 3) P 49 (lX9_readsTermt_49 f1 P r49) := by
  unfold lX9_readsTermt_49
  refine sm_aloadV_n (pc := 49) (n := 0) dX9_readsTerm_49 rfl ?_
  refine sm_cV (pc := 50) (ci := 9) (n := 1) (mc := 0) (ms := 0) rfl (zMet_str mg_X9_see) (cr_X9_364 (X := X_X9_readsTerm) (fr := n1 + 3) (frc := 1) (pc := 50) (mc := 0) (ms := 0) rfl (by omega) dX9_readsTerm_50) ?_
  refine sm_bipush (pc := 53) dX9_readsTerm_53 zc_b_42 ?_
  refine sm_icmpS_ne (pc := 55) (tgt := 193) dX9_readsTerm_55 (by decide) ?_ ?_
  · skip
    refine sm_aloadV_n (pc := 193) (n := 0) dX9_readsTerm_193 rfl ?_
    refine sm_dup (pc := 194) dX9_readsTerm_194 ?_
    refine gf_X9_359 (pc := 195) rfl dX9_readsTerm_195 ?_
    refine sm_iconst (pc := 198) dX9_readsTerm_198 zc_i_1 ?_
    refine sm_isubR (pc := 199) dX9_readsTerm_199 ?_
    refine pf_X9_359 (pc := 200) rfl dX9_readsTerm_200 ?_
    refine sm_iconst (pc := 203) dX9_readsTerm_203 zc_i_1 ?_
    exact sm_zreturn (pc := 204) dX9_readsTerm_204 rfl
  · skip
    refine sm_aloadV_n (pc := 58) (n := 0) dX9_readsTerm_58 rfl ?_
    refine gfT_X9_353 (pc := 59) rfl dX9_readsTerm_59 ?_
    refine sm_istore_n (pc := 62) (n := 1) dX9_readsTerm_62 rfl ?_
    exact sm_aiT (pc := 63) (ci := 9) (n := 47) (C := RX9) (T := TX9) (N := 63) rfl rfl rfl zc_i_1 inz9 rfl (by decide) wd_1065 rfl dX9_readsTerm_63 rfl dX9_readsTerm_64 dX9_readsTerm_65 dX9_readsTerm_68 dX9_readsTerm_69 (zput (C := RX9) (T := TX9) (N := 63) (ty0 := tyX9) (ty := .int) inz9 tyX9_ok nmX9 rfl (by decide) wd_1065 rfl rfl dX9_readsTerm_70) (fun G2 hg0 hgm => @suX9_readsTermt_73 d G2 n1 f1 hf1 P r49 (hr49.up hg0 hgm))
noncomputable def lX9_readsTermt_15 {d : Nat} (f1 : List zV → zH d → zP d → Bool) (P : zP d) (r15 : zK d) : zK d := (xild 1 (xaldV 0 (xgfI 25 2 (xcmpS tgeR rlGe rhS rlS rhLt (xlpA 25 47 (wkF 0 [] 47 274877906944 (wkU 1 (wkU 2 (wkU 3 (wkU 4 (wkU 5 (wkF 0 [] 48 4294967296 (wkF 0 [] 49 4294967296 (wkF 0 [] 54 4294967296 (wkF 0 [] 55 4294967296 (wkF 0 [] 50 4294967317 (wkF 0 [] 61 4294967296 (wkA 0 [51] 4294967296 (wkA 0 [52] 4294967296 (wkA 0 [60] 4294967296 (wkA 0 [62] 4294967296 (wkA 0 [56] 18446744073709551616 (wkA 0 [57] 18446744073709551616 (wkA 0 [58] 18446744073709551616 wkE))))))))))))))))))) (fun r49 => (lX9_readsTermt_49 f1 P r49))) (xaldV 0 (xgfR 25 57 (xpI 11 (xaldV 0 (xgfI 25 59 (xbin zmulR (xild 1 (xbin zaddR (xaldV 0 (xgfR 25 58 (xild 1 (xlal (xlas (xincR 1 1 r15))))))))))))))))))
set_option maxRecDepth 100000 in
set_option maxHeartbeats 4000000 in
theorem slX9_readsTermt_15 {d : Nat} [zGh] (n1 : Nat) (f1 : List zV → zH d → zP d → Bool) (hf1 : zMet X_X9_readsFactor yX9_readsFactor n1 f1) (P : zP d) (r15 : zK d) (hr15 : zSimJ 1 X_X9_readsTerm (n1 + 3) P 15 r15) : zSim X_X9_readsTerm (n1 + 3) P 15 (lX9_readsTermt_15 f1 P r15) := by
  unfold lX9_readsTermt_15
  refine sm_iload_n (pc := 15) (n := 1) dX9_readsTerm_15 rfl ?_
  refine sm_aloadV_n (pc := 16) (n := 0) dX9_readsTerm_16 rfl ?_
  refine gf_X9_153 (pc := 17) rfl dX9_readsTerm_17 ?_
  refine sm_icmpS_ge (pc := 20) (tgt := 49) dX9_readsTerm_20 (by decide) ?_ ?_
  · skip
    exact sm_lpA (ci := 9) rfl rfl (by decide) (wkF_ok (wkU_ok (wkU_ok (wkU_ok (wkU_ok (wkU_ok (wkF_ok (wkF_ok (wkF_ok (wkF_ok (wkF_ok (wkF_ok (wkA_ok (wkA_ok (wkA_ok (wkA_ok (wkA_ok (wkA_ok (wkA_ok wkE_ok))))))))))))))))))) (fun G1 r49 hr49 => @slX9_readsTermt_49 d G1 n1 f1 hf1 P r49 hr49)
  · skip
    refine sm_aloadV_n (pc := 23) (n := 0) dX9_readsTerm_23 rfl ?_
    refine gf_X9_137 (pc := 24) rfl dX9_readsTerm_24 ?_
    refine sm_bipush (pc := 27) dX9_readsTerm_27 zc_b_11 ?_
    refine sm_aloadV_n (pc := 29) (n := 0) dX9_readsTerm_29 rfl ?_
    refine gf_X9_396 (pc := 30) rfl dX9_readsTerm_30 ?_
    refine sm_imulR (pc := 33) dX9_readsTerm_33 ?_
    refine sm_iload_n (pc := 34) (n := 1) dX9_readsTerm_34 rfl ?_
    refine sm_iaddR (pc := 35) dX9_readsTerm_35 ?_
    refine sm_aloadV_n (pc := 36) (n := 0) dX9_readsTerm_36 rfl ?_
    refine gf_X9_140 (pc := 37) rfl dX9_readsTerm_37 ?_
    refine sm_iload_n (pc := 40) (n := 1) dX9_readsTerm_40 rfl ?_
    refine sm_laload (pc := 41) dX9_readsTerm_41 ?_
    refine sm_lastore (pc := 42) dX9_readsTerm_42 ?_
    refine sm_iincR (pc := 43) (n := 1) dX9_readsTerm_43 zc_i_1 ?_
    refine sm_goto (pc := 46) (tgt := 15) dX9_readsTerm_46 (by decide) ?_
    exact hr15.use
noncomputable def b_X9_readsTermt {d : Nat} (f1 : List zV → zH d → zP d → Bool) (P : zP d) : zK d := (xaldV 0 (xcV 25 1 0 0 (zstr f_X9_begint) (xaldV 0 (xcV 25 1 0 0 (zstr f1) (xif0S teqR rlEq rhEq rlNe rhNe (xpI 0 (xzret P)) (xpI 0 (xist 1 (xloop (fun r15 => (lX9_readsTermt_15 f1 P r15)) 100000))))))))
set_option maxRecDepth 100000 in
set_option maxHeartbeats 4000000 in
theorem s_X9_readsTermt {d : Nat} [zGh] (n1 : Nat) (f1 : List zV → zH d → zP d → Bool) (hf1 : zMet X_X9_readsFactor yX9_readsFactor n1 f1) (P : zP d) : zSim X_X9_readsTerm (n1 + 3) P 0 (b_X9_readsTermt f1 P) := by
  unfold b_X9_readsTermt
  refine sm_aloadV_n (pc := 0) (n := 0) dX9_readsTerm_0 rfl ?_
  refine sm_cV (pc := 1) (ci := 9) (n := 1) (mc := 0) (ms := 0) rfl (zMet_str m_X9_begint) (cr_X9_402 (X := X_X9_readsTerm) (fr := n1 + 3) (frc := 2) (pc := 1) (mc := 0) (ms := 0) rfl (by omega) dX9_readsTerm_1) ?_
  refine sm_aloadV_n (pc := 4) (n := 0) dX9_readsTerm_4 rfl ?_
  refine sm_cV (pc := 5) (ci := 9) (n := 1) (mc := 0) (ms := 0) rfl (zMet_str hf1) (cr_X9_418 (X := X_X9_readsTerm) (fr := n1 + 3) (frc := n1) (pc := 5) (mc := 0) (ms := 0) rfl (by omega) dX9_readsTerm_5) ?_
  refine sm_ifS_ne (pc := 8) (tgt := 13) dX9_readsTerm_8 (by decide) ?_ ?_
  · skip
    refine sm_iconst (pc := 13) dX9_readsTerm_13 zc_i_0 ?_
    refine sm_istore_n (pc := 14) (n := 1) dX9_readsTerm_14 rfl ?_
    exact (sm_loopJ (j := 1) (fun G1 hG1 r15 hr15 => @slX9_readsTermt_15 d G1 n1 f1 hf1 P r15 hr15) _).use
  · skip
    refine sm_iconst (pc := 11) dX9_readsTerm_11 zc_i_0 ?_
    exact sm_zreturn (pc := 12) dX9_readsTerm_12 rfl
noncomputable def f_X9_readsTermt {d : Nat} (f1 : List zV → zH d → zP d → Bool) : List zV → zH d → zP d → Bool := zfn 6 (b_X9_readsTermt f1 )
theorem m_X9_readsTermt {d : Nat} (n1 : Nat) (f1 : List zV → zH d → zP d → Bool) (hf1 : zMet X_X9_readsFactor yX9_readsFactor n1 f1) : zMet (d := d) X_X9_readsTerm yX9_readsTerm (n1 + 3) (f_X9_readsTermt f1 ) := zmet_mk (X := X_X9_readsTerm) (by decide) rfl rfl (fun P => s_X9_readsTermt n1 f1 hf1 P)

noncomputable def cX9_readsSumt_159 {d : Nat} (f1 : List zV → zH d → zP d → Bool) (f2 : List zV → zH d → zP d → Bool) (P : zP d) (r121 : zK d) : zK d := (xlal (xbinj zmulj (xbinj zaddj (xlas (xincR 3 1 r121)))))
set_option maxRecDepth 100000 in
set_option maxHeartbeats 4000000 in
theorem scX9_readsSumt_159 {d : Nat} [zGh] (n1 n2 : Nat) (f1 : List zV → zH d → zP d → Bool) (f2 : List zV → zH d → zP d → Bool) (hf1 : zMet X_X9_readsTerm yX9_readsTerm n1 f1) (hf2 : zMet X_X9_areNear yX9_areNear n2 f2) (P : zP d) (r121 : zK d) (hr121 : zSimJ 1 X_X9_readsSum (n1 + n2 + 3) P 121 r121) : zSim X_X9_readsSum (n1 + n2 + 3) P 159 (cX9_readsSumt_159 f1 f2 P r121) := by
  unfold cX9_readsSumt_159
  refine sm_laload (pc := 159) dX9_readsSum_159 ?_
  refine sm_lmul (pc := 160) dX9_readsSum_160 ?_
  refine sm_ladd (pc := 161) dX9_readsSum_161 ?_
  refine sm_lastore (pc := 162) dX9_readsSum_162 ?_
  refine sm_iincR (pc := 163) (n := 3) dX9_readsSum_163 zc_i_1 ?_
  refine sm_goto (pc := 166) (tgt := 121) dX9_readsSum_166 (by decide) ?_
  exact hr121.use
noncomputable def lX9_readsSumt_121 {d : Nat} (f1 : List zV → zH d → zP d → Bool) (f2 : List zV → zH d → zP d → Bool) (P : zP d) (r121 : zK d) (r57 : zK d) : zK d := (xild 3 (xaldV 0 (xgfI 25 2 (xcmpS tgeR rlGe rhS rlS rhLt (xaldV 0 (xaldV 0 (xgfR 25 56 (xcV 25 2 0 0 (zstr f2) (xif0S teqR rlEq rhEq rlNe rhNe (xaldV 0 (xpI 6 (xild 1 (xcV 25 3 0 0 (zstr f_X9_failst) (xzret P))))) r57))))) (xaldV 0 (xgfR 25 56 (xpI 11 (xaldV 0 (xgfI 25 59 (xbin zmulR (xild 3 (xbin zaddR (xdup2V (xlal (xild 2 (xi2lR (xaldV 0 (xgfR 25 57 (xpI 11 (xaldV 0 (xgfI 25 59 (xbin zmulR (xild 3 (xbin zaddR (cX9_readsSumt_159 f1 f2 P r121)))))))))))))))))))))))))
set_option maxRecDepth 100000 in
set_option maxHeartbeats 4000000 in
theorem slX9_readsSumt_121 {d : Nat} [zGh] (n1 n2 : Nat) (f1 : List zV → zH d → zP d → Bool) (f2 : List zV → zH d → zP d → Bool) (hf1 : zMet X_X9_readsTerm yX9_readsTerm n1 f1) (hf2 : zMet X_X9_areNear yX9_areNear n2 f2) (P : zP d) (r121 : zK d) (r57 : zK d) (hr121 : zSimJ 1 X_X9_readsSum (n1 + n2 + 3) P 121 r121) (hr57 : zSimJ 1 X_X9_readsSum (n1 + n2 + 3) P 57 r57) : zSim X_X9_readsSum (n1 + n2 + 3) P 121 (lX9_readsSumt_121 f1 f2 P r121 r57) := by
  unfold lX9_readsSumt_121
  refine sm_iload_n (pc := 121) (n := 3) dX9_readsSum_121 rfl ?_
  refine sm_aloadV_n (pc := 122) (n := 0) dX9_readsSum_122 rfl ?_
  refine gf_X9_153 (pc := 123) rfl dX9_readsSum_123 ?_
  refine sm_icmpS_ge (pc := 126) (tgt := 169) dX9_readsSum_126 (by decide) ?_ ?_
  · skip
    refine sm_aloadV_n (pc := 169) (n := 0) dX9_readsSum_169 rfl ?_
    refine sm_aloadV_n (pc := 170) (n := 0) dX9_readsSum_170 rfl ?_
    refine gf_X9_134 (pc := 171) rfl dX9_readsSum_171 ?_
    refine sm_cV (pc := 174) (ci := 9) (n := 2) (mc := 0) (ms := 0) rfl (zMet_str hf2) (cr_X9_428 (X := X_X9_readsSum) (fr := n1 + n2 + 3) (frc := n2) (pc := 174) (mc := 0) (ms := 0) rfl (by omega) dX9_readsSum_174) ?_
    refine sm_ifS_ne (pc := 177) (tgt := 188) dX9_readsSum_177 (by decide) ?_ ?_
    · skip
      refine sm_goto (pc := 188) (tgt := 57) dX9_readsSum_188 (by decide) ?_
      exact hr57.use
    · skip
      refine sm_aloadV_n (pc := 180) (n := 0) dX9_readsSum_180 rfl ?_
      refine sm_bipush (pc := 181) dX9_readsSum_181 zc_b_6 ?_
      refine sm_iload_n (pc := 183) (n := 1) dX9_readsSum_183 rfl ?_
      refine sm_cV (pc := 184) (ci := 9) (n := 3) (mc := 0) (ms := 0) rfl (zMet_str m_X9_failst) (cr_X9_377 (X := X_X9_readsSum) (fr := n1 + n2 + 3) (frc := 1) (pc := 184) (mc := 0) (ms := 0) rfl (by omega) dX9_readsSum_184) ?_
      exact sm_zreturn (pc := 187) dX9_readsSum_187 rfl
  · skip
    refine sm_aloadV_n (pc := 129) (n := 0) dX9_readsSum_129 rfl ?_
    refine gf_X9_134 (pc := 130) rfl dX9_readsSum_130 ?_
    refine sm_bipush (pc := 133) dX9_readsSum_133 zc_b_11 ?_
    refine sm_aloadV_n (pc := 135) (n := 0) dX9_readsSum_135 rfl ?_
    refine gf_X9_396 (pc := 136) rfl dX9_readsSum_136 ?_
    refine sm_imulR (pc := 139) dX9_readsSum_139 ?_
    refine sm_iload_n (pc := 140) (n := 3) dX9_readsSum_140 rfl ?_
    refine sm_iaddR (pc := 141) dX9_readsSum_141 ?_
    refine sm_dup2V (pc := 142) dX9_readsSum_142 ?_
    refine sm_laload (pc := 143) dX9_readsSum_143 ?_
    refine sm_iload_n (pc := 144) (n := 2) dX9_readsSum_144 rfl ?_
    refine sm_i2lR (pc := 145) dX9_readsSum_145 ?_
    refine sm_aloadV_n (pc := 146) (n := 0) dX9_readsSum_146 rfl ?_
    refine gf_X9_137 (pc := 147) rfl dX9_readsSum_147 ?_
    refine sm_bipush (pc := 150) dX9_readsSum_150 zc_b_11 ?_
    refine sm_aloadV_n (pc := 152) (n := 0) dX9_readsSum_152 rfl ?_
    refine gf_X9_396 (pc := 153) rfl dX9_readsSum_153 ?_
    refine sm_imulR (pc := 156) dX9_readsSum_156 ?_
    refine sm_iload_n (pc := 157) (n := 3) dX9_readsSum_157 rfl ?_
    refine sm_iaddR (pc := 158) dX9_readsSum_158 ?_
    exact scX9_readsSumt_159 n1 n2 f1 f2 hf1 hf2 P r121 hr121
noncomputable def uX9_readsSumt_110 {d : Nat} (f1 : List zV → zH d → zP d → Bool) (f2 : List zV → zH d → zP d → Bool) (P : zP d) (r57 : zK d) : zK d := (xaldV 0 (xcV 25 1 0 0 (zstr f1) (xif0S teqR rlEq rhEq rlNe rhNe (xpI 0 (xzret P)) (xpI 0 (xist 3 (xloop (fun r121 => (lX9_readsSumt_121 f1 f2 P r121 r57)) 100000))))))
set_option maxRecDepth 100000 in
set_option maxHeartbeats 4000000 in
theorem suX9_readsSumt_110 {d : Nat} [zGh] (n1 n2 : Nat) (f1 : List zV → zH d → zP d → Bool) (f2 : List zV → zH d → zP d → Bool) (hf1 : zMet X_X9_readsTerm yX9_readsTerm n1 f1) (hf2 : zMet X_X9_areNear yX9_areNear n2 f2) (P : zP d) (r57 : zK d) (hr57 : zSimJ 1 X_X9_readsSum (n1 + n2 + 3) P 57 r57) : zSim X_X9_readsSum (n1 + n2 + 3) P 110 (uX9_readsSumt_110 f1 f2 P r57) := by
  unfold uX9_readsSumt_110
  refine sm_aloadV_n (pc := 110) (n := 0) dX9_readsSum_110 rfl ?_
  refine sm_cV (pc := 111) (ci := 9) (n := 1) (mc := 0) (ms := 0) rfl (zMet_str hf1) (cr_X9_425 (X := X_X9_readsSum) (fr := n1 + n2 + 3) (frc := n1) (pc := 111) (mc := 0) (ms := 0) rfl (by omega) dX9_readsSum_111) ?_
  refine sm_ifS_ne (pc := 114) (tgt := 119) dX9_readsSum_114 (by decide) ?_ ?_
  · skip
    refine sm_iconst (pc := 119) dX9_readsSum_119 zc_i_0 ?_
    refine sm_istore_n (pc := 120) (n := 3) dX9_readsSum_120 rfl ?_
    exact (sm_loopJ (j := 1) (fun G1 hG1 r121 hr121 => @slX9_readsSumt_121 d G1 n1 n2 f1 f2 hf1 hf2 P r121 r57 hr121 (hr57.mv hG1 (by decide))) _).use
  · skip
    refine sm_iconst (pc := 117) dX9_readsSum_117 zc_i_0 ?_
    exact sm_zreturn (pc := 118) dX9_readsSum_118 rfl
noncomputable def bX9_readsSumt_99 {d : Nat} (f1 : List zV → zH d → zP d → Bool) (f2 : List zV → zH d → zP d → Bool) (P : zP d) (r57 : zK d) : zK d := (xist 2 (xaiT 25 47 (uX9_readsSumt_110 f1 f2 P r57)))
set_option maxRecDepth 100000 in
set_option maxHeartbeats 4000000 in
theorem sbX9_readsSumt_99 {d : Nat} [zGh] (n1 n2 : Nat) (f1 : List zV → zH d → zP d → Bool) (f2 : List zV → zH d → zP d → Bool) (hf1 : zMet X_X9_readsTerm yX9_readsTerm n1 f1) (hf2 : zMet X_X9_areNear yX9_areNear n2 f2) (P : zP d) (r57 : zK d) (hr57 : zSimU 1 X_X9_readsSum (n1 + n2 + 3) P 57 r57) : zSim X_X9_readsSum (n1 + n2 + 3) P 99 (bX9_readsSumt_99 f1 f2 P r57) := by
  unfold bX9_readsSumt_99
  refine sm_istore_n (pc := 99) (n := 2) dX9_readsSum_99 rfl ?_
  exact sm_aiT (pc := 100) (ci := 9) (n := 47) (C := RX9) (T := TX9) (N := 63) rfl rfl rfl zc_i_1 inz9 rfl (by decide) wd_1065 rfl dX9_readsSum_100 rfl dX9_readsSum_101 dX9_readsSum_102 dX9_readsSum_105 dX9_readsSum_106 (zput (C := RX9) (T := TX9) (N := 63) (ty0 := tyX9) (ty := .int) inz9 tyX9_ok nmX9 rfl (by decide) wd_1065 rfl rfl dX9_readsSum_107) (fun G2 hg0 hgm => @suX9_readsSumt_110 d G2 n1 n2 f1 f2 hf1 hf2 P r57 (hr57.up hg0 hgm))
noncomputable def bX9_readsSumt_75 {d : Nat} (f1 : List zV → zH d → zP d → Bool) (f2 : List zV → zH d → zP d → Bool) (P : zP d) (r57 : zK d) : zK d := (xaldV 0 (xgfT 25 47 (xist 1 (xaldV 0 (xgfR 25 45 (xaldV 0 (xgfT 25 47 (xalQ 0 (xpI 43 (xjn wkE (zsp [zI 4294967296] 2) (bX9_readsSumt_99 f1 f2 P r57) (fun j99 => (xcmpS teqR rlEq rhEq rlNe rhNe (xpI 1 j99) (xpI 4294967295 j99)))))))))))))
set_option maxRecDepth 100000 in
set_option maxHeartbeats 4000000 in
theorem sbX9_readsSumt_75 {d : Nat} [zGh] (n1 n2 : Nat) (f1 : List zV → zH d → zP d → Bool) (f2 : List zV → zH d → zP d → Bool) (hf1 : zMet X_X9_readsTerm yX9_readsTerm n1 f1) (hf2 : zMet X_X9_areNear yX9_areNear n2 f2) (P : zP d) (r57 : zK d) (hr57 : zSimU 1 X_X9_readsSum (n1 + n2 + 3) P 57 r57) : zSim X_X9_readsSum (n1 + n2 + 3) P 75 (bX9_readsSumt_75 f1 f2 P r57) := by
  unfold bX9_readsSumt_75
  refine sm_aloadV_n (pc := 75) (n := 0) dX9_readsSum_75 rfl ?_
  refine gfT_X9_353 (pc := 76) rfl dX9_readsSum_76 ?_
  refine sm_istore_n (pc := 79) (n := 1) dX9_readsSum_79 rfl ?_
  refine sm_aloadV_n (pc := 80) (n := 0) dX9_readsSum_80 rfl ?_
  refine gf_X9_121 (pc := 81) rfl dX9_readsSum_81 ?_
  refine sm_aloadV_n (pc := 84) (n := 0) dX9_readsSum_84 rfl ?_
  refine gfT_X9_353 (pc := 85) rfl dX9_readsSum_85 ?_
  refine sm_ialoadQ (pc := 88) dX9_readsSum_88 ?_
  refine sm_bipush (pc := 89) dX9_readsSum_89 zc_b_43 ?_
  refine sm_jn (pc := 91) (pc' := 99) (j := 1) wkE_ok (zsp_ok _ _) (fun G0 hG0 => @sbX9_readsSumt_99 d G0 n1 n2 f1 f2 hf1 hf2 P r57 (hr57.mv hG0 (by decide))) (fun j99 hj99 => ?_)
  refine sm_icmpS_ne (pc := 91) (tgt := 98) dX9_readsSum_91 (by decide) ?_ ?_
  · skip
    refine sm_iconst (pc := 98) dX9_readsSum_98 zc_i_m1 ?_
    exact hj99.use
  · skip
    refine sm_iconst (pc := 94) dX9_readsSum_94 zc_i_1 ?_
    refine sm_goto (pc := 95) (tgt := 99) dX9_readsSum_95 (by decide) ?_
    exact hj99.use
noncomputable def lX9_readsSumt_57 {d : Nat} (f1 : List zV → zH d → zP d → Bool) (f2 : List zV → zH d → zP d → Bool) (P : zP d) (r57 : zK d) : zK d := (xaldV 0 (xcV 25 1 0 0 (zstr g_X9_see) (xpI 43 (xjoin (bX9_readsSumt_75 f1 f2 P r57) (fun j75 => (xcmpS teqR rlEq rhEq rlNe rhNe j75 (xaldV 0 (xcV 25 1 0 0 (zstr g_X9_see) (xpI 45 (xcmpS teqR rlEq rhEq rlNe rhNe j75 (xaldV 0 (xdup (xgfI 25 53 (xpI 1 (xbin zsubR (xpfI 25 53 (xpI 1 (xzret P))))))))))))))))))
set_option maxRecDepth 100000 in
set_option maxHeartbeats 4000000 in
theorem slX9_readsSumt_57 {d : Nat} [zGh] (n1 n2 : Nat) (f1 : List zV → zH d → zP d → Bool) (f2 : List zV → zH d → zP d → Bool) (hf1 : zMet X_X9_readsTerm yX9_readsTerm n1 f1) (hf2 : zMet X_X9_areNear yX9_areNear n2 f2) (P : zP d) (r57 : zK d) (hr57 : zSimU 1 X_X9_readsSum (n1 + n2 + 3) P 57 r57) : zSim X_X9_readsSum (n1 + n2 + 3) P 57 (lX9_readsSumt_57 f1 f2 P r57) := by
  unfold lX9_readsSumt_57
  refine sm_aloadV_n (pc := 57) (n := 0) dX9_readsSum_57 rfl ?_
  refine sm_cV (pc := 58) (ci := 9) (n := 1) (mc := 0) (ms := 0) rfl (zMet_str mg_X9_see) (cr_X9_364 (X := X_X9_readsSum) (fr := n1 + n2 + 3) (frc := 1) (pc := 58) (mc := 0) (ms := 0) rfl (by omega) dX9_readsSum_58) ?_
  refine sm_bipush (pc := 61) dX9_readsSum_61 zc_b_43 ?_
  refine sm_joinJ (pc := 63) (pc' := 75) (j := 1) (fun G0 hG0 => @sbX9_readsSumt_75 d G0 n1 n2 f1 f2 hf1 hf2 P r57 (hr57.mv hG0 (by decide))) (fun j75 hj75 => ?_)
  refine sm_icmpS_eq (pc := 63) (tgt := 75) dX9_readsSum_63 (by decide) ?_ ?_
  · skip
    exact hj75.use
  · skip
    refine sm_aloadV_n (pc := 66) (n := 0) dX9_readsSum_66 rfl ?_
    refine sm_cV (pc := 67) (ci := 9) (n := 1) (mc := 0) (ms := 0) rfl (zMet_str mg_X9_see) (cr_X9_364 (X := X_X9_readsSum) (fr := n1 + n2 + 3) (frc := 1) (pc := 67) (mc := 0) (ms := 0) rfl (by omega) dX9_readsSum_67) ?_
    refine sm_bipush (pc := 70) dX9_readsSum_70 zc_b_45 ?_
    refine sm_icmpS_ne (pc := 72) (tgt := 191) dX9_readsSum_72 (by decide) ?_ ?_
    · skip
      refine sm_aloadV_n (pc := 191) (n := 0) dX9_readsSum_191 rfl ?_
      refine sm_dup (pc := 192) dX9_readsSum_192 ?_
      refine gf_X9_359 (pc := 193) rfl dX9_readsSum_193 ?_
      refine sm_iconst (pc := 196) dX9_readsSum_196 zc_i_1 ?_
      refine sm_isubR (pc := 197) dX9_readsSum_197 ?_
      refine pf_X9_359 (pc := 198) rfl dX9_readsSum_198 ?_
      refine sm_iconst (pc := 201) dX9_readsSum_201 zc_i_1 ?_
      exact sm_zreturn (pc := 202) dX9_readsSum_202 rfl
    · skip
      exact hj75.use
noncomputable def lX9_readsSumt_15 {d : Nat} (f1 : List zV → zH d → zP d → Bool) (f2 : List zV → zH d → zP d → Bool) (P : zP d) (r15 : zK d) : zK d := (xild 1 (xaldV 0 (xgfI 25 2 (xcmpS tgeR rlGe rhS rlS rhLt (xlpA 25 47 (wkF 0 [] 47 274877906944 (wkU 1 (wkU 2 (wkU 3 (wkF 0 [] 48 4294967296 (wkF 0 [] 49 4294967296 (wkF 0 [] 54 4294967296 (wkF 0 [] 55 4294967296 (wkF 0 [] 50 4294967317 (wkF 0 [] 61 4294967296 (wkA 0 [51] 4294967296 (wkA 0 [52] 4294967296 (wkA 0 [60] 4294967296 (wkA 0 [62] 4294967296 (wkA 0 [56] 18446744073709551616 (wkA 0 [57] 18446744073709551616 (wkA 0 [58] 18446744073709551616 wkE))))))))))))))))) (fun r57 => (lX9_readsSumt_57 f1 f2 P r57))) (xaldV 0 (xgfR 25 56 (xpI 11 (xaldV 0 (xgfI 25 59 (xbin zmulR (xild 1 (xbin zaddR (xaldV 0 (xgfR 25 57 (xpI 11 (xaldV 0 (xgfI 25 59 (xbin zmulR (xild 1 (xbin zaddR (xlal (xlas (xincR 1 1 r15)))))))))))))))))))))))
set_option maxRecDepth 100000 in
set_option maxHeartbeats 4000000 in
theorem slX9_readsSumt_15 {d : Nat} [zGh] (n1 n2 : Nat) (f1 : List zV → zH d → zP d → Bool) (f2 : List zV → zH d → zP d → Bool) (hf1 : zMet X_X9_readsTerm yX9_readsTerm n1 f1) (hf2 : zMet X_X9_areNear yX9_areNear n2 f2) (P : zP d) (r15 : zK d) (hr15 : zSimJ 1 X_X9_readsSum (n1 + n2 + 3) P 15 r15) : zSim X_X9_readsSum (n1 + n2 + 3) P 15 (lX9_readsSumt_15 f1 f2 P r15) := by
  unfold lX9_readsSumt_15
  refine sm_iload_n (pc := 15) (n := 1) dX9_readsSum_15 rfl ?_
  refine sm_aloadV_n (pc := 16) (n := 0) dX9_readsSum_16 rfl ?_
  refine gf_X9_153 (pc := 17) rfl dX9_readsSum_17 ?_
  refine sm_icmpS_ge (pc := 20) (tgt := 57) dX9_readsSum_20 (by decide) ?_ ?_
  · skip
    exact sm_lpA (ci := 9) rfl rfl (by decide) (wkF_ok (wkU_ok (wkU_ok (wkU_ok (wkF_ok (wkF_ok (wkF_ok (wkF_ok (wkF_ok (wkF_ok (wkA_ok (wkA_ok (wkA_ok (wkA_ok (wkA_ok (wkA_ok (wkA_ok wkE_ok))))))))))))))))) (fun G1 r57 hr57 => @slX9_readsSumt_57 d G1 n1 n2 f1 f2 hf1 hf2 P r57 hr57)
  · skip
    refine sm_aloadV_n (pc := 23) (n := 0) dX9_readsSum_23 rfl ?_
    refine gf_X9_134 (pc := 24) rfl dX9_readsSum_24 ?_
    refine sm_bipush (pc := 27) dX9_readsSum_27 zc_b_11 ?_
    refine sm_aloadV_n (pc := 29) (n := 0) dX9_readsSum_29 rfl ?_
    refine gf_X9_396 (pc := 30) rfl dX9_readsSum_30 ?_
    refine sm_imulR (pc := 33) dX9_readsSum_33 ?_
    refine sm_iload_n (pc := 34) (n := 1) dX9_readsSum_34 rfl ?_
    refine sm_iaddR (pc := 35) dX9_readsSum_35 ?_
    refine sm_aloadV_n (pc := 36) (n := 0) dX9_readsSum_36 rfl ?_
    refine gf_X9_137 (pc := 37) rfl dX9_readsSum_37 ?_
    refine sm_bipush (pc := 40) dX9_readsSum_40 zc_b_11 ?_
    refine sm_aloadV_n (pc := 42) (n := 0) dX9_readsSum_42 rfl ?_
    refine gf_X9_396 (pc := 43) rfl dX9_readsSum_43 ?_
    refine sm_imulR (pc := 46) dX9_readsSum_46 ?_
    refine sm_iload_n (pc := 47) (n := 1) dX9_readsSum_47 rfl ?_
    refine sm_iaddR (pc := 48) dX9_readsSum_48 ?_
    refine sm_laload (pc := 49) dX9_readsSum_49 ?_
    refine sm_lastore (pc := 50) dX9_readsSum_50 ?_
    refine sm_iincR (pc := 51) (n := 1) dX9_readsSum_51 zc_i_1 ?_
    refine sm_goto (pc := 54) (tgt := 15) dX9_readsSum_54 (by decide) ?_
    exact hr15.use
noncomputable def b_X9_readsSumt {d : Nat} (f1 : List zV → zH d → zP d → Bool) (f2 : List zV → zH d → zP d → Bool) (P : zP d) : zK d := (xaldV 0 (xcV 25 1 0 0 (zstr f_X9_begint) (xaldV 0 (xcV 25 1 0 0 (zstr f1) (xif0S teqR rlEq rhEq rlNe rhNe (xpI 0 (xzret P)) (xpI 0 (xist 1 (xloop (fun r15 => (lX9_readsSumt_15 f1 f2 P r15)) 100000))))))))
set_option maxRecDepth 100000 in
set_option maxHeartbeats 4000000 in
theorem s_X9_readsSumt {d : Nat} [zGh] (n1 n2 : Nat) (f1 : List zV → zH d → zP d → Bool) (f2 : List zV → zH d → zP d → Bool) (hf1 : zMet X_X9_readsTerm yX9_readsTerm n1 f1) (hf2 : zMet X_X9_areNear yX9_areNear n2 f2) (P : zP d) : zSim X_X9_readsSum (n1 + n2 + 3) P 0 (b_X9_readsSumt f1 f2 P) := by
  unfold b_X9_readsSumt
  refine sm_aloadV_n (pc := 0) (n := 0) dX9_readsSum_0 rfl ?_
  refine sm_cV (pc := 1) (ci := 9) (n := 1) (mc := 0) (ms := 0) rfl (zMet_str m_X9_begint) (cr_X9_402 (X := X_X9_readsSum) (fr := n1 + n2 + 3) (frc := 2) (pc := 1) (mc := 0) (ms := 0) rfl (by omega) dX9_readsSum_1) ?_
  refine sm_aloadV_n (pc := 4) (n := 0) dX9_readsSum_4 rfl ?_
  refine sm_cV (pc := 5) (ci := 9) (n := 1) (mc := 0) (ms := 0) rfl (zMet_str hf1) (cr_X9_425 (X := X_X9_readsSum) (fr := n1 + n2 + 3) (frc := n1) (pc := 5) (mc := 0) (ms := 0) rfl (by omega) dX9_readsSum_5) ?_
  refine sm_ifS_ne (pc := 8) (tgt := 13) dX9_readsSum_8 (by decide) ?_ ?_
  · skip
    refine sm_iconst (pc := 13) dX9_readsSum_13 zc_i_0 ?_
    refine sm_istore_n (pc := 14) (n := 1) dX9_readsSum_14 rfl ?_
    exact (sm_loopJ (j := 1) (fun G1 hG1 r15 hr15 => @slX9_readsSumt_15 d G1 n1 n2 f1 f2 hf1 hf2 P r15 hr15) _).use
  · skip
    refine sm_iconst (pc := 11) dX9_readsSum_11 zc_i_0 ?_
    exact sm_zreturn (pc := 12) dX9_readsSum_12 rfl
noncomputable def f_X9_readsSumt {d : Nat} (f1 : List zV → zH d → zP d → Bool) (f2 : List zV → zH d → zP d → Bool) : List zV → zH d → zP d → Bool := zfn 4 (b_X9_readsSumt f1 f2 )
theorem m_X9_readsSumt {d : Nat} (n1 n2 : Nat) (f1 : List zV → zH d → zP d → Bool) (f2 : List zV → zH d → zP d → Bool) (hf1 : zMet X_X9_readsTerm yX9_readsTerm n1 f1) (hf2 : zMet X_X9_areNear yX9_areNear n2 f2) : zMet (d := d) X_X9_readsSum yX9_readsSum (n1 + n2 + 3) (f_X9_readsSumt f1 f2 ) := zmet_mk (X := X_X9_readsSum) (by decide) rfl rfl (fun P => s_X9_readsSumt n1 n2 f1 f2 hf1 hf2 P)
