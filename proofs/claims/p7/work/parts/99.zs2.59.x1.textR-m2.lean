section
/-! the reference's text: by program -/
noncomputable def lX9_textt_95 {d : Nat} (f1 : List zV → zH d → zP d → Bool) (P : zP d) (r95 : zK d) : zK d := (xild 3 (xaldV 0 (xgfI 25 2 (xcmpS tgeR rlGe rhS rlS rhLt (xpI 0 (xiret P)) (xaldV 0 (xgfR 25 43 (xpI 11 (xild 1 (xbin zmulR (xild 3 (xbin zaddR (xaldV 0 (xgfR 25 56 (xild 3 (xlal (xlas (xincR 3 1 r95)))))))))))))))))
set_option maxRecDepth 100000 in
set_option maxHeartbeats 4000000 in
theorem slX9_textt_95 {d : Nat} [zGh] (n1 : Nat) (f1 : List zV → zH d → zP d → Bool) (hf1 : zMet X_X9_readsSum yX9_readsSum n1 f1) (P : zP d) (r95 : zK d) (hr95 : zSimJ 1 X_X9_text (n1 + 3) P 95 r95) : zSim X_X9_text (n1 + 3) P 95 (lX9_textt_95 f1 P r95) := by
  unfold lX9_textt_95
  refine sm_iload_n (pc := 95) (n := 3) dX9_text_95 rfl ?_
  refine sm_aloadV_n (pc := 96) (n := 0) dX9_text_96 rfl ?_
  refine gf_X9_153 (pc := 97) rfl dX9_text_97 ?_
  refine sm_icmpS_ge (pc := 100) (tgt := 126) dX9_text_100 (by decide) ?_ ?_
  · skip
    refine sm_iconst (pc := 126) dX9_text_126 zc_i_0 ?_
    exact sm_ireturn (pc := 127) dX9_text_127 rfl
  · skip
    refine sm_aloadV_n (pc := 103) (n := 0) dX9_text_103 rfl ?_
    refine gf_X9_115 (pc := 104) rfl dX9_text_104 ?_
    refine sm_bipush (pc := 107) dX9_text_107 zc_b_11 ?_
    refine sm_iload_n (pc := 109) (n := 1) dX9_text_109 rfl ?_
    refine sm_imulR (pc := 110) dX9_text_110 ?_
    refine sm_iload_n (pc := 111) (n := 3) dX9_text_111 rfl ?_
    refine sm_iaddR (pc := 112) dX9_text_112 ?_
    refine sm_aloadV_n (pc := 113) (n := 0) dX9_text_113 rfl ?_
    refine gf_X9_134 (pc := 114) rfl dX9_text_114 ?_
    refine sm_iload_n (pc := 117) (n := 3) dX9_text_117 rfl ?_
    refine sm_laload (pc := 118) dX9_text_118 ?_
    refine sm_lastore (pc := 119) dX9_text_119 ?_
    refine sm_iincR (pc := 120) (n := 3) dX9_text_120 zc_i_1 ?_
    refine sm_goto (pc := 123) (tgt := 95) dX9_text_123 (by decide) ?_
    exact hr95.use
noncomputable def bX9_textt_72 {d : Nat} (f1 : List zV → zH d → zP d → Bool) (P : zP d) : zK d := (xaldV 0 (xpI 0 (xpfI 25 46 (xild 1 (xcS 1 0 0 (zstr f_X9_isSlott) (xif0S teqR rlEq rhEq rlNe rhNe (xpI 4294967294 (xiret P)) (xild 2 (xif0S teqR rlEq rhEq rlNe rhNe (xpI 4294967295 (xiret P)) (xpI 0 (xist 3 (xloop (fun r95 => (lX9_textt_95 f1 P r95)) 100000)))))))))))
set_option maxRecDepth 100000 in
set_option maxHeartbeats 4000000 in
theorem sbX9_textt_72 {d : Nat} [zGh] (n1 : Nat) (f1 : List zV → zH d → zP d → Bool) (hf1 : zMet X_X9_readsSum yX9_readsSum n1 f1) (P : zP d) : zSim X_X9_text (n1 + 3) P 72 (bX9_textt_72 f1 P) := by
  unfold bX9_textt_72
  refine sm_aloadV_n (pc := 72) (n := 0) dX9_text_72 rfl ?_
  refine sm_iconst (pc := 73) dX9_text_73 zc_i_0 ?_
  refine pf_X9_347 (pc := 74) rfl dX9_text_74 ?_
  refine sm_iload_n (pc := 77) (n := 1) dX9_text_77 rfl ?_
  refine sm_cS (pc := 78) (n := 1) (mc := 0) (ms := 0) (zMet_str m_X9_isSlott) (cr_X9_319 (X := X_X9_text) (fr := n1 + 3) (frc := 2) (pc := 78) (mc := 0) (ms := 0) rfl (by omega) dX9_text_78) ?_
  refine sm_ifS_ne (pc := 81) (tgt := 87) dX9_text_81 (by decide) ?_ ?_
  · skip
    refine sm_iload_n (pc := 87) (n := 2) dX9_text_87 rfl ?_
    refine sm_ifS_ne (pc := 88) (tgt := 93) dX9_text_88 (by decide) ?_ ?_
    · skip
      refine sm_iconst (pc := 93) dX9_text_93 zc_i_0 ?_
      refine sm_istore_n (pc := 94) (n := 3) dX9_text_94 rfl ?_
      exact (sm_loopJ (j := 1) (fun G1 hG1 r95 hr95 => @slX9_textt_95 d G1 n1 f1 hf1 P r95 hr95) _).use
    · skip
      refine sm_iconst (pc := 91) dX9_text_91 zc_i_m1 ?_
      exact sm_ireturn (pc := 92) dX9_text_92 rfl
  · skip
    refine sm_bipush (pc := 84) dX9_text_84 zc_b_m2 ?_
    exact sm_ireturn (pc := 86) dX9_text_86 rfl
noncomputable def bX9_textt_49 {d : Nat} (f1 : List zV → zH d → zP d → Bool) (P : zP d) : zK d := (xist 2 (xild 2 (xjoin (bX9_textt_72 f1 P) (fun j72 => (xif0S teqR rlEq rhEq rlNe rhNe j72 (xaldV 0 (xcV 25 1 0 0 (zstr (zenT 25 47 g_X9_see)) (xpI 4294967295 (xcmpS teqR rlEq rhEq rlNe rhNe j72 (xaldV 0 (xpI 1 (xaldV 0 (xgfT 25 47 (xcV 25 3 0 0 (zstr f_X9_failst) (xist 2 j72)))))))))))))))
set_option maxRecDepth 100000 in
set_option maxHeartbeats 4000000 in
theorem sbX9_textt_49 {d : Nat} [zGh] (n1 : Nat) (f1 : List zV → zH d → zP d → Bool) (hf1 : zMet X_X9_readsSum yX9_readsSum n1 f1) (P : zP d) : zSim X_X9_text (n1 + 3) P 49 (bX9_textt_49 f1 P) := by
  unfold bX9_textt_49
  refine sm_istore_n (pc := 49) (n := 2) dX9_text_49 rfl ?_
  refine sm_iload_n (pc := 50) (n := 2) dX9_text_50 rfl ?_
  refine sm_joinJ (pc := 51) (pc' := 72) (j := 1) (fun G0 hG0 => @sbX9_textt_72 d G0 n1 f1 hf1 P) (fun j72 hj72 => ?_)
  refine sm_ifS_eq (pc := 51) (tgt := 72) dX9_text_51 (by decide) ?_ ?_
  · skip
    exact hj72.use
  · skip
    refine sm_aloadV_n (pc := 54) (n := 0) dX9_text_54 rfl ?_
    refine sm_cV (pc := 55) (ci := 9) (n := 1) (mc := 0) (ms := 0) rfl (zMet_str (zMet_en (ci := 9) rfl rfl (by decide) mg_X9_see)) (cr_X9_364 (X := X_X9_text) (fr := n1 + 3) (frc := 1) (pc := 55) (mc := 0) (ms := 0) rfl (by omega) dX9_text_55) ?_
    refine sm_iconst (pc := 58) dX9_text_58 zc_i_m1 ?_
    refine sm_icmpS_eq (pc := 59) (tgt := 72) dX9_text_59 (by decide) ?_ ?_
    · skip
      exact hj72.use
    · skip
      refine sm_aloadV_n (pc := 62) (n := 0) dX9_text_62 rfl ?_
      refine sm_iconst (pc := 63) dX9_text_63 zc_i_1 ?_
      refine sm_aloadV_n (pc := 64) (n := 0) dX9_text_64 rfl ?_
      refine gfT_X9_353 (pc := 65) rfl dX9_text_65 ?_
      refine sm_cV (pc := 68) (ci := 9) (n := 3) (mc := 0) (ms := 0) rfl (zMet_str m_X9_failst) (cr_X9_377 (X := X_X9_text) (fr := n1 + 3) (frc := 1) (pc := 68) (mc := 0) (ms := 0) rfl (by omega) dX9_text_68) ?_
      refine sm_istore_n (pc := 71) (n := 2) dX9_text_71 rfl ?_
      exact hj72.use
noncomputable def bX9_textt_48 {d : Nat} (f1 : List zV → zH d → zP d → Bool) (P : zP d) (j49 : zK d) : zK d := (xpI 0 j49)
set_option maxRecDepth 100000 in
set_option maxHeartbeats 4000000 in
theorem sbX9_textt_48 {d : Nat} [zGh] (n1 : Nat) (f1 : List zV → zH d → zP d → Bool) (hf1 : zMet X_X9_readsSum yX9_readsSum n1 f1) (P : zP d) (j49 : zK d) (hj49 : zSimJ 1 X_X9_text (n1 + 3) P 49 j49) : zSim X_X9_text (n1 + 3) P 48 (bX9_textt_48 f1 P j49) := by
  unfold bX9_textt_48
  refine sm_iconst (pc := 48) dX9_text_48 zc_i_0 ?_
  exact hj49.use
noncomputable def cX9_textt_44 {d : Nat} (f1 : List zV → zH d → zP d → Bool) (P : zP d) (j49 : zK d) : zK d := (xpI 1 j49)
set_option maxRecDepth 100000 in
set_option maxHeartbeats 4000000 in
theorem scX9_textt_44 {d : Nat} [zGh] (n1 : Nat) (f1 : List zV → zH d → zP d → Bool) (hf1 : zMet X_X9_readsSum yX9_readsSum n1 f1) (P : zP d) (j49 : zK d) (hj49 : zSimJ 1 X_X9_text (n1 + 3) P 49 j49) : zSim X_X9_text (n1 + 3) P 44 (cX9_textt_44 f1 P j49) := by
  unfold cX9_textt_44
  refine sm_iconst (pc := 44) dX9_text_44 zc_i_1 ?_
  refine sm_goto (pc := 45) (tgt := 49) dX9_text_45 (by decide) ?_
  exact hj49.use
noncomputable def b_X9_textt {d : Nat} (f1 : List zV → zH d → zP d → Bool) (P : zP d) : zK d := (xaldV 0 (xpI 0 (xpfI 25 48 (xaldV 0 (xpI 4294967295 (xpfI 25 49 (xaldV 0 (xpI 0 (xpfI 25 50 (xaldV 0 (xpI 0 (xpfI 25 53 (xaldV 0 (xpI 0 (xpfI 25 59 (xaldV 0 (xpI 0 (xpfI 25 47 (xild 1 (xcS 1 0 0 (zstr f_X9_isSlott) (xjoin (bX9_textt_49 f1 P) (fun j49 => (xjoin (bX9_textt_48 f1 P j49) (fun j48 => (xif0S teqR rlEq rhEq rlNe rhNe j48 (xaldV 0 (xcV 25 1 0 0 (zstr f1) (xif0S teqR rlEq rhEq rlNe rhNe j48 (cX9_textt_44 f1 P j49)))))))))))))))))))))))))))))
set_option maxRecDepth 100000 in
set_option maxHeartbeats 4000000 in
theorem s_X9_textt {d : Nat} [zGh] (n1 : Nat) (f1 : List zV → zH d → zP d → Bool) (hf1 : zMet X_X9_readsSum yX9_readsSum n1 f1) (P : zP d) : zSim X_X9_text (n1 + 3) P 0 (b_X9_textt f1 P) := by
  unfold b_X9_textt
  refine sm_aloadV_n (pc := 0) (n := 0) dX9_text_0 rfl ?_
  refine sm_iconst (pc := 1) dX9_text_1 zc_i_0 ?_
  refine pf_X9_356 (pc := 2) rfl dX9_text_2 ?_
  refine sm_aloadV_n (pc := 5) (n := 0) dX9_text_5 rfl ?_
  refine sm_iconst (pc := 6) dX9_text_6 zc_i_m1 ?_
  refine pf_X9_124 (pc := 7) rfl dX9_text_7 ?_
  refine sm_aloadV_n (pc := 10) (n := 0) dX9_text_10 rfl ?_
  refine sm_iconst (pc := 11) dX9_text_11 zc_i_0 ?_
  refine pf_X9_361 (pc := 12) rfl dX9_text_12 ?_
  refine sm_aloadV_n (pc := 15) (n := 0) dX9_text_15 rfl ?_
  refine sm_iconst (pc := 16) dX9_text_16 zc_i_0 ?_
  refine pf_X9_359 (pc := 17) rfl dX9_text_17 ?_
  refine sm_aloadV_n (pc := 20) (n := 0) dX9_text_20 rfl ?_
  refine sm_iconst (pc := 21) dX9_text_21 zc_i_0 ?_
  refine pf_X9_396 (pc := 22) rfl dX9_text_22 ?_
  refine sm_aloadV_n (pc := 25) (n := 0) dX9_text_25 rfl ?_
  refine sm_iconst (pc := 26) dX9_text_26 zc_i_0 ?_
  refine pf_X9_353 (pc := 27) rfl dX9_text_27 ?_
  refine sm_iload_n (pc := 30) (n := 1) dX9_text_30 rfl ?_
  refine sm_cS (pc := 31) (n := 1) (mc := 0) (ms := 0) (zMet_str m_X9_isSlott) (cr_X9_319 (X := X_X9_text) (fr := n1 + 3) (frc := 2) (pc := 31) (mc := 0) (ms := 0) rfl (by omega) dX9_text_31) ?_
  refine sm_joinJ (pc := 34) (pc' := 49) (j := 1) (fun G0 hG0 => @sbX9_textt_49 d G0 n1 f1 hf1 P) (fun j49 hj49 => ?_)
  refine sm_joinJ (pc := 34) (pc' := 48) (j := 1) (fun G0 hG0 => @sbX9_textt_48 d G0 n1 f1 hf1 P j49 (hj49.mv hG0 (by decide))) (fun j48 hj48 => ?_)
  refine sm_ifS_eq (pc := 34) (tgt := 48) dX9_text_34 (by decide) ?_ ?_
  · skip
    exact hj48.use
  · skip
    refine sm_aloadV_n (pc := 37) (n := 0) dX9_text_37 rfl ?_
    refine sm_cV (pc := 38) (ci := 9) (n := 1) (mc := 0) (ms := 0) rfl (zMet_str hf1) (cr_X9_399 (X := X_X9_text) (fr := n1 + 3) (frc := n1) (pc := 38) (mc := 0) (ms := 0) rfl (by omega) dX9_text_38) ?_
    refine sm_ifS_eq (pc := 41) (tgt := 48) dX9_text_41 (by decide) ?_ ?_
    · skip
      exact hj48.use
    · skip
      exact scX9_textt_44 n1 f1 hf1 P j49 hj49
noncomputable def f_X9_textt {d : Nat} (f1 : List zV → zH d → zP d → Bool) : List zV → zH d → zP d → Bool := zfn 4 (b_X9_textt f1 )
theorem m_X9_textt {d : Nat} (n1 : Nat) (f1 : List zV → zH d → zP d → Bool) (hf1 : zMet X_X9_readsSum yX9_readsSum n1 f1) : zMet (d := d) X_X9_text yX9_text (n1 + 3) (f_X9_textt f1 ) := zmet_mk (X := X_X9_text) (by decide) rfl rfl (fun P => s_X9_textt n1 f1 hf1 P)

noncomputable def zk_99_zs2_59_x1_textR_0 : zT 1 := @Prod.mk (zT 0) (zT 0) (0, 20, zun 40 20 4294967296) (0, 20, zun 40 20 4294967296)
noncomputable def zk_99_zs2_59_x1_textR_1 : zC := (0, 6, 0x10000000001000000000100000000010000000001000000000100000000)
noncomputable def zk_99_zs2_59_x1_textR_2 : zT 2 := @Prod.mk (zT 1) (zT 1) ((2, 55, zun 72 55 18446744073709551616), (2, 55, zun 72 55 18446744073709551616)) ((2, 11, zun 72 11 18446744073709551616), zk_99_zs2_59_x1_textR_1)
noncomputable def zk_99_zs2_59_x1_textR_3 : zC := (0, 11, 0x1000000000100000000010000000001000000000100000000010000000001000000000100000000010000000001000000000000000001)
noncomputable def zk_99_zs2_59_x1_textR_4 : zT 1 := @Prod.mk (zT 0) (zT 0) (0, 121, zun 40 121 4294967296) (1, 11, 0x1000000000100000000010000000001000000000100000000010000000001000000000100000000010000000001000000000000000001)
noncomputable def zk_99_zs2_59_x1_textR_5 : zT 3 := @Prod.mk (zT 2) (zT 2) ((zk_99_zs2_59_x1_textR_1, (0, 66, 0x10000000001000000000100000000010000000001000000000100000000010000000001000000000100000000010000000001000000000100000000010000000001000000000100000000010000000001000000000100000000010000000001000000000100000000010000000001000000000100000000010000000001000000000100000000010000000001000000000100000000010000000001000000000100000000010000000001000000000100000000010000000001000000000100000000010000000001000000000100000000010000000001000000000100000000010000000001000000000100000000010000000001000000000100000000010000000001000000000100000000010000000001000000000100000000010000000001000000000100000000000000000000000000000000000000000000000000000000000000000001)), (zk_99_zs2_59_x1_textR_3, (0, 121, zun 40 121 4294967296))) (zk_99_zs2_59_x1_textR_4, zk_99_zs2_59_x1_textR_4)
noncomputable def zk_99_zs2_59_x1_textR_6 : zT 4 := @Prod.mk (zT 3) (zT 3) (((zk_99_zs2_59_x1_textR_3, (2, 66, zun 72 66 18446744073709551616)), zO1), zO2) zO3
noncomputable def hTx_12 : zH 5 := (show zT 5 from ((((((25, 63, 0x90100000000000000000801000000050000000007000000000600000000050100000000010000000001000000150000000004000000000301000000150100000000010000000001000000c901000000c90000000002800000002d0000000012800000002b800000002a000000000d80000000288000000027000000000f800000002580000000248000000023800000002280000000218000000020800000001f800000001e800000001d800000001c800000001b800000001a8000000019800000001880000000178000000016800000001580000000148000000013800000001280000000118000000010000000000c800000000e800000000d800000000c800000000b0000000011000000000e000000001080000000078000000006000000000b000000000a000000000180000000028000000001), (0, 200, zun 40 200 4294967296)), zk_99_zs2_59_x1_textR_0), zk_99_zs2_59_x1_textR_2), zk_99_zs2_59_x1_textR_5), zk_99_zs2_59_x1_textR_6), (18, (0, 0)))
noncomputable def hTx_12_o0 : zH 5 := (show zT 5 from ((((((25, 63, 0x90100000000000000000801000000050000000007000000000600000000050100000000010000000001000000100000000004000000000301000000150100000000010000000001000000c900000000000000000002800000002d0000000012800000002b800000002a000000000d80000000288000000027000000000f800000002580000000248000000023800000002280000000218000000020800000001f800000001e800000001d800000001c800000001b800000001a8000000019800000001880000000178000000016800000001580000000148000000013800000001280000000118000000010000000000c800000000e800000000d800000000c800000000b0000000011000000000e000000001080000000078000000006000000000b000000000a000000000180000000028000000001), (0, 200, zun 40 200 4294967296)), zk_99_zs2_59_x1_textR_0), zk_99_zs2_59_x1_textR_2), zk_99_zs2_59_x1_textR_5), zk_99_zs2_59_x1_textR_6), (18, (0, 0)))
set_option maxRecDepth 100000 in
theorem e_T_12 : (zcutR 1 6 (f_X9_textt (zenT 25 47 g_U12_0))) [zR 1, zI 4294967296] hTx_12 (zrkL [(zI 4294967296, hTx_12_o0)]) = true := by decide +kernel
noncomputable def g_textR_12 {d : Nat} : List zV → zH d → zP d → Bool := zsmyL [(0, 0), (1, 45), (1, 51), (1, 52), (1, 56), (1, 57), (1, 58), (1, 60), (1, 62), (1, 3), (1, 4), (1, 14), (1, 40), (1, 8), (1, 37), (1, 7), (1, 9), (1, 43)] [zR 1, zI 4294967296] hTx_12 [(zI 4294967296, hTx_12_o0)]
theorem m_textR_12 {d : Nat} : zMet (d := d) X_X9_text yX9_text 413 g_textR_12 := zMet_smL (zMet_cutR (m_X9_textt _ _ (zMet_en (ci := 9) rfl rfl (by decide) m_U12_0))) e_T_12
noncomputable def zk_99_zs2_59_x1_textR_7 : zT 3 := @Prod.mk (zT 2) (zT 2) (((25, 63, 0x90100000000000000000801000000050000000007000000000600000000050100000000010000000001000000150000000004000000000301000000150100000000010000000001000000c901000000c90000000002800000002d0000000012800000002b800000002a000000000d80000000288000000027000000000f800000002580000000248000000023800000002280000000218000000020800000001f800000001e800000001d800000001c800000001b800000001a8000000019800000001880000000178000000016800000001580000000148000000013800000001280000000118000000010000000000c800000000e800000000d800000000c800000000b0000000011000000000e000000001080000000078000000006000000000b000000000a000000000280000000028000000001), (0, 200, zun 40 200 4294967296)), zk_99_zs2_59_x1_textR_0) zk_99_zs2_59_x1_textR_2
noncomputable def zk_99_zs2_59_x1_textR_8 : zT 2 := @Prod.mk (zT 1) (zT 1) (zk_99_zs2_59_x1_textR_1, (0, 66, 0x10000000001000000000100000000010000000001000000000100000000010000000001000000000100000000010000000001000000000100000000010000000001000000000100000000010000000001000000000100000000010000000001000000000100000000010000000001000000000100000000010000000001000000000100000000010000000001000000000100000000010000000001000000000100000000010000000001000000000100000000010000000001000000000100000000010000000001000000000100000000010000000001000000000100000000010000000001000000000100000000010000000001000000000100000000010000000001000000000100000000000000000000000000000000000000000000000000000000010000000001000000000000000000000000000000000000000000000000000000000002)) ((0, 11, 0x1000000000100000000010000000001000000000100000000010000000001000000000100000000010000000000000000020000000001), (0, 121, zun 40 121 4294967296))
noncomputable def zk_99_zs2_59_x1_textR_9 : zT 3 := @Prod.mk (zT 2) (zT 2) zk_99_zs2_59_x1_textR_8 (((0, 121, zun 40 121 4294967296), (1, 11, 0x1000000000100000000010000000001000000000100000000010000000001000000000100000000010000000000000000010000000000)), ((0, 121, zun 40 121 4294967296), (1, 11, 0x1000000000100000000010000000001000000000100000000010000000001000000000100000000010000000000000000000000000001)))
noncomputable def zk_99_zs2_59_x1_textR_10 : zT 4 := @Prod.mk (zT 3) (zT 3) ((((0, 11, 0x10000000001000000000100000000010000000001000000000100000000010000000001000000000100000000000000000100ffffffff), (2, 66, zun 72 66 18446744073709551616)), zO1), zO2) zO3
noncomputable def hTx_22 : zH 5 := (show zT 5 from ((zk_99_zs2_59_x1_textR_7, zk_99_zs2_59_x1_textR_9), zk_99_zs2_59_x1_textR_10), (18, (0, 0)))
noncomputable def zk_99_zs2_59_x1_textR_11 : zT 3 := @Prod.mk (zT 2) (zT 2) (((25, 63, 0x90100000000000000000801000000050000000007000000000600000000050100000000010000000001000000100000000004000000000301000000150100000000010000000001000000c900000000000000000002800000002d0000000012800000002b800000002a000000000d80000000288000000027000000000f800000002580000000248000000023800000002280000000218000000020800000001f800000001e800000001d800000001c800000001b800000001a8000000019800000001880000000178000000016800000001580000000148000000013800000001280000000118000000010000000000c800000000e800000000d800000000c800000000b0000000011000000000e000000001080000000078000000006000000000b000000000a000000000280000000028000000001), (0, 200, zun 40 200 4294967296)), zk_99_zs2_59_x1_textR_0) zk_99_zs2_59_x1_textR_2
noncomputable def hTx_22_o0 : zH 5 := (show zT 5 from ((zk_99_zs2_59_x1_textR_11, zk_99_zs2_59_x1_textR_9), zk_99_zs2_59_x1_textR_10), (18, (0, 0)))
set_option maxRecDepth 100000 in
theorem e_T_22 : (zcutR 1 6 (f_X9_textt (zenT 25 47 g_U22_0))) [zR 1, zI 4294967296] hTx_22 (zrkL [(zI 4294967296, hTx_22_o0)]) = true := by decide +kernel
noncomputable def g_textR_22 {d : Nat} : List zV → zH d → zP d → Bool := zsmyL [(0, 0), (1, 45), (1, 51), (1, 52), (1, 56), (1, 57), (1, 58), (1, 60), (1, 62), (1, 3), (1, 4), (1, 14), (1, 40), (1, 8), (1, 37), (1, 7), (1, 9), (1, 43)] [zR 1, zI 4294967296] hTx_22 [(zI 4294967296, hTx_22_o0)]
theorem m_textR_22 {d : Nat} : zMet (d := d) X_X9_text yX9_text 413 g_textR_22 := zMet_smL (zMet_cutR (m_X9_textt _ _ (zMet_en (ci := 9) rfl rfl (by decide) m_U22_0))) e_T_22
noncomputable def zk_99_zs2_59_x1_textR_12 : zT 1 := @Prod.mk (zT 0) (zT 0) (0, 121, zun 40 121 4294967296) (1, 11, 0x1000000000100000000010000000001000000000100000000010000000001000000000100000000010000000000000000010000000001)
noncomputable def zk_99_zs2_59_x1_textR_13 : zT 3 := @Prod.mk (zT 2) (zT 2) zk_99_zs2_59_x1_textR_8 (zk_99_zs2_59_x1_textR_12, zk_99_zs2_59_x1_textR_12)
noncomputable def hTx_23 : zH 5 := (show zT 5 from ((zk_99_zs2_59_x1_textR_7, zk_99_zs2_59_x1_textR_13), zk_99_zs2_59_x1_textR_10), (18, (0, 0)))
noncomputable def hTx_23_o0 : zH 5 := (show zT 5 from ((zk_99_zs2_59_x1_textR_11, zk_99_zs2_59_x1_textR_13), zk_99_zs2_59_x1_textR_10), (18, (0, 0)))
set_option maxRecDepth 100000 in
theorem e_T_23 : (zcutR 1 6 (f_X9_textt (zenT 25 47 g_U23_0))) [zR 1, zI 4294967296] hTx_23 (zrkL [(zI 4294967296, hTx_23_o0)]) = true := by decide +kernel
noncomputable def g_textR_23 {d : Nat} : List zV → zH d → zP d → Bool := zsmyL [(0, 0), (1, 45), (1, 51), (1, 52), (1, 56), (1, 57), (1, 58), (1, 60), (1, 62), (1, 3), (1, 4), (1, 14), (1, 40), (1, 8), (1, 37), (1, 7), (1, 9), (1, 43)] [zR 1, zI 4294967296] hTx_23 [(zI 4294967296, hTx_23_o0)]
theorem m_textR_23 {d : Nat} : zMet (d := d) X_X9_text yX9_text 413 g_textR_23 := zMet_smL (zMet_cutR (m_X9_textt _ _ (zMet_en (ci := 9) rfl rfl (by decide) m_U23_0))) e_T_23
noncomputable def zk_99_zs2_59_x1_textR_14 : zT 3 := @Prod.mk (zT 2) (zT 2) (((25, 63, 0x90100000000000000000801000000050000000007000000000600000000050100000000010000000001000000150000000004000000000301000000150100000000010000000001000000c901000000c90000000002800000002d0000000012800000002b800000002a000000000d80000000288000000027000000000f800000002580000000248000000023800000002280000000218000000020800000001f800000001e800000001d800000001c800000001b800000001a8000000019800000001880000000178000000016800000001580000000148000000013800000001280000000118000000010000000000c800000000e800000000d800000000c800000000b0000000011000000000e000000001080000000078000000006000000000b000000000a000000000380000000028000000001), (0, 200, zun 40 200 4294967296)), zk_99_zs2_59_x1_textR_0) zk_99_zs2_59_x1_textR_2
noncomputable def zk_99_zs2_59_x1_textR_15 : zT 2 := @Prod.mk (zT 1) (zT 1) (zk_99_zs2_59_x1_textR_1, (0, 66, 0x10000000001000000000100000000010000000001000000000100000000010000000001000000000100000000010000000001000000000100000000010000000001000000000100000000010000000001000000000100000000010000000001000000000100000000010000000001000000000100000000010000000001000000000100000000010000000001000000000100000000010000000001000000000100000000010000000001000000000100000000010000000001000000000100000000010000000001000000000100000000010000000001000000000100000000010000000001000000000100000000000000000000000000000000000000000000000100000000010000000001000000000000000000000000000000000000000000000000010000000002000000000000000000000000000000000000000000000000000000000003)) ((0, 11, 0x1000000000100000000010000000001000000000100000000010000000001000000000100000000000000000300000000020000000001), (0, 121, zun 40 121 4294967296))
noncomputable def zk_99_zs2_59_x1_textR_16 : zT 1 := @Prod.mk (zT 0) (zT 0) (0, 121, zun 40 121 4294967296) (1, 11, 0x1000000000100000000010000000001000000000100000000010000000001000000000100000000000000000000000000010000000001)
noncomputable def zk_99_zs2_59_x1_textR_17 : zT 3 := @Prod.mk (zT 2) (zT 2) zk_99_zs2_59_x1_textR_15 (((0, 121, zun 40 121 4294967296), (1, 11, 0x1000000000100000000010000000001000000000100000000010000000001000000000100000000000000000100000000000000000001)), zk_99_zs2_59_x1_textR_16)
noncomputable def zk_99_zs2_59_x1_textR_18 : zT 4 := @Prod.mk (zT 3) (zT 3) ((((0, 11, 0x1000000000100000000010000000001000000000100000000010000000001000000000100000000000000000100ffffffff0000000001), (2, 66, zun 72 66 18446744073709551616)), zO1), zO2) zO3
noncomputable def hTx_32 : zH 5 := (show zT 5 from ((zk_99_zs2_59_x1_textR_14, zk_99_zs2_59_x1_textR_17), zk_99_zs2_59_x1_textR_18), (18, (0, 0)))
noncomputable def zk_99_zs2_59_x1_textR_19 : zT 3 := @Prod.mk (zT 2) (zT 2) (((25, 63, 0x90100000000000000000801000000050000000007000000000600000000050100000000010000000001000000100000000004000000000301000000150100000000010000000001000000c900000000000000000002800000002d0000000012800000002b800000002a000000000d80000000288000000027000000000f800000002580000000248000000023800000002280000000218000000020800000001f800000001e800000001d800000001c800000001b800000001a8000000019800000001880000000178000000016800000001580000000148000000013800000001280000000118000000010000000000c800000000e800000000d800000000c800000000b0000000011000000000e000000001080000000078000000006000000000b000000000a000000000380000000028000000001), (0, 200, zun 40 200 4294967296)), zk_99_zs2_59_x1_textR_0) zk_99_zs2_59_x1_textR_2
noncomputable def hTx_32_o0 : zH 5 := (show zT 5 from ((zk_99_zs2_59_x1_textR_19, zk_99_zs2_59_x1_textR_17), zk_99_zs2_59_x1_textR_18), (18, (0, 0)))
set_option maxRecDepth 100000 in
theorem e_T_32 : (zcutR 1 6 (f_X9_textt (zenT 25 47 g_U32_0))) [zR 1, zI 4294967296] hTx_32 (zrkL [(zI 4294967296, hTx_32_o0)]) = true := by decide +kernel
noncomputable def g_textR_32 {d : Nat} : List zV → zH d → zP d → Bool := zsmyL [(0, 0), (1, 45), (1, 51), (1, 52), (1, 56), (1, 57), (1, 58), (1, 60), (1, 62), (1, 3), (1, 4), (1, 14), (1, 40), (1, 8), (1, 37), (1, 7), (1, 9), (1, 43)] [zR 1, zI 4294967296] hTx_32 [(zI 4294967296, hTx_32_o0)]
theorem m_textR_32 {d : Nat} : zMet (d := d) X_X9_text yX9_text 413 g_textR_32 := zMet_smL (zMet_cutR (m_X9_textt _ _ (zMet_en (ci := 9) rfl rfl (by decide) m_U32_0))) e_T_32
noncomputable def zk_99_zs2_59_x1_textR_20 : zT 3 := @Prod.mk (zT 2) (zT 2) zk_99_zs2_59_x1_textR_15 (((0, 121, zun 40 121 4294967296), (1, 11, 0x1000000000100000000010000000001000000000100000000010000000001000000000100000000000000000100000000010000000000)), zk_99_zs2_59_x1_textR_16)
noncomputable def hTx_33 : zH 5 := (show zT 5 from ((zk_99_zs2_59_x1_textR_14, zk_99_zs2_59_x1_textR_20), zk_99_zs2_59_x1_textR_18), (18, (0, 0)))
noncomputable def hTx_33_o0 : zH 5 := (show zT 5 from ((zk_99_zs2_59_x1_textR_19, zk_99_zs2_59_x1_textR_20), zk_99_zs2_59_x1_textR_18), (18, (0, 0)))
set_option maxRecDepth 100000 in
theorem e_T_33 : (zcutR 1 6 (f_X9_textt (zenT 25 47 g_U33_0))) [zR 1, zI 4294967296] hTx_33 (zrkL [(zI 4294967296, hTx_33_o0)]) = true := by decide +kernel
noncomputable def g_textR_33 {d : Nat} : List zV → zH d → zP d → Bool := zsmyL [(0, 0), (1, 45), (1, 51), (1, 52), (1, 56), (1, 57), (1, 58), (1, 60), (1, 62), (1, 3), (1, 4), (1, 14), (1, 40), (1, 8), (1, 37), (1, 7), (1, 9), (1, 43)] [zR 1, zI 4294967296] hTx_33 [(zI 4294967296, hTx_33_o0)]
theorem m_textR_33 {d : Nat} : zMet (d := d) X_X9_text yX9_text 413 g_textR_33 := zMet_smL (zMet_cutR (m_X9_textt _ _ (zMet_en (ci := 9) rfl rfl (by decide) m_U33_0))) e_T_33
noncomputable def zk_99_zs2_59_x1_textR_21 : zT 1 := @Prod.mk (zT 0) (zT 0) (0, 121, zun 40 121 4294967296) (1, 11, 0x1000000000100000000010000000001000000000100000000010000000001000000000100000000000000000100000000010000000001)
noncomputable def zk_99_zs2_59_x1_textR_22 : zT 3 := @Prod.mk (zT 2) (zT 2) zk_99_zs2_59_x1_textR_15 (zk_99_zs2_59_x1_textR_21, zk_99_zs2_59_x1_textR_21)
noncomputable def hTx_35 : zH 5 := (show zT 5 from ((zk_99_zs2_59_x1_textR_14, zk_99_zs2_59_x1_textR_22), zk_99_zs2_59_x1_textR_18), (18, (0, 0)))
noncomputable def hTx_35_o0 : zH 5 := (show zT 5 from ((zk_99_zs2_59_x1_textR_19, zk_99_zs2_59_x1_textR_22), zk_99_zs2_59_x1_textR_18), (18, (0, 0)))
set_option maxRecDepth 100000 in
theorem e_T_35 : (zcutR 1 6 (f_X9_textt (zenT 25 47 g_U35_0))) [zR 1, zI 4294967296] hTx_35 (zrkL [(zI 4294967296, hTx_35_o0)]) = true := by decide +kernel
noncomputable def g_textR_35 {d : Nat} : List zV → zH d → zP d → Bool := zsmyL [(0, 0), (1, 45), (1, 51), (1, 52), (1, 56), (1, 57), (1, 58), (1, 60), (1, 62), (1, 3), (1, 4), (1, 14), (1, 40), (1, 8), (1, 37), (1, 7), (1, 9), (1, 43)] [zR 1, zI 4294967296] hTx_35 [(zI 4294967296, hTx_35_o0)]
theorem m_textR_35 {d : Nat} : zMet (d := d) X_X9_text yX9_text 413 g_textR_35 := zMet_smL (zMet_cutR (m_X9_textt _ _ (zMet_en (ci := 9) rfl rfl (by decide) m_U35_0))) e_T_35
noncomputable def zk_99_zs2_59_x1_textR_23 : zT 3 := @Prod.mk (zT 2) (zT 2) (((25, 63, 0x90100000000000000000801000000050000000007000000000600000000050100000000010000000001000000150000000004000000000301000000150100000000010000000001000000c901000000c90000000002800000002d0000000012800000002b800000002a000000000d80000000288000000027000000000f800000002580000000248000000023800000002280000000218000000020800000001f800000001e800000001d800000001c800000001b800000001a8000000019800000001880000000178000000016800000001580000000148000000013800000001280000000118000000010000000000c800000000e800000000d800000000c800000000b0000000011000000000e000000001080000000078000000006000000000b000000000a000000000580000000028000000001), (0, 200, zun 40 200 4294967296)), zk_99_zs2_59_x1_textR_0) zk_99_zs2_59_x1_textR_2
noncomputable def zk_99_zs2_59_x1_textR_24 : zT 2 := @Prod.mk (zT 1) (zT 1) (zk_99_zs2_59_x1_textR_1, (0, 66, 0x10000000001000000000100000000010000000001000000000100000000010000000001000000000100000000010000000001000000000100000000010000000001000000000100000000010000000001000000000100000000010000000001000000000100000000010000000001000000000100000000010000000001000000000100000000010000000001000000000100000000010000000001000000000100000000010000000001000000000100000000000000000000000000000000000001000000000100000000010000000001000000000000000000000000000000000000000100000000010000000002000000000000000000000000000000000000000000000000020000000002000000000000000000000000000000000000000000000000010000000003000000000000000000000000000000000000000000000000000000000004)) ((0, 11, 0x1000000000100000000010000000001000000000100000000010000000000000000040000000003000000000200000000020000000001), (0, 121, zun 40 121 4294967296))
noncomputable def zk_99_zs2_59_x1_textR_25 : zT 3 := @Prod.mk (zT 2) (zT 2) zk_99_zs2_59_x1_textR_24 (((0, 121, zun 40 121 4294967296), (1, 11, 0x1000000000100000000010000000001000000000100000000010000000000000000010000000000000000000000000000010000000000)), ((0, 121, zun 40 121 4294967296), (1, 11, 0x1000000000100000000010000000001000000000100000000010000000000000000000000000000000000000000000000010000000001)))
noncomputable def zk_99_zs2_59_x1_textR_26 : zT 4 := @Prod.mk (zT 3) (zT 3) ((((0, 11, 0x10000000001000000000100000000010000000001000000000100000000000000000100ffffffff0000000001000000000100ffffffff), (2, 66, zun 72 66 18446744073709551616)), zO1), zO2) zO3
noncomputable def hTx_42 : zH 5 := (show zT 5 from ((zk_99_zs2_59_x1_textR_23, zk_99_zs2_59_x1_textR_25), zk_99_zs2_59_x1_textR_26), (18, (0, 0)))
noncomputable def zk_99_zs2_59_x1_textR_27 : zT 3 := @Prod.mk (zT 2) (zT 2) (((25, 63, 0x90100000000000000000801000000050000000007000000000600000000050100000000010000000001000000100000000004000000000301000000150100000000010000000001000000c900000000000000000002800000002d0000000012800000002b800000002a000000000d80000000288000000027000000000f800000002580000000248000000023800000002280000000218000000020800000001f800000001e800000001d800000001c800000001b800000001a8000000019800000001880000000178000000016800000001580000000148000000013800000001280000000118000000010000000000c800000000e800000000d800000000c800000000b0000000011000000000e000000001080000000078000000006000000000b000000000a000000000580000000028000000001), (0, 200, zun 40 200 4294967296)), zk_99_zs2_59_x1_textR_0) zk_99_zs2_59_x1_textR_2
noncomputable def hTx_42_o0 : zH 5 := (show zT 5 from ((zk_99_zs2_59_x1_textR_27, zk_99_zs2_59_x1_textR_25), zk_99_zs2_59_x1_textR_26), (18, (0, 0)))
set_option maxRecDepth 100000 in
theorem e_T_42 : (zcutR 1 6 (f_X9_textt (zenT 25 47 g_U42_0))) [zR 1, zI 4294967296] hTx_42 (zrkL [(zI 4294967296, hTx_42_o0)]) = true := by decide +kernel
noncomputable def g_textR_42 {d : Nat} : List zV → zH d → zP d → Bool := zsmyL [(0, 0), (1, 45), (1, 51), (1, 52), (1, 56), (1, 57), (1, 58), (1, 60), (1, 62), (1, 3), (1, 4), (1, 14), (1, 40), (1, 8), (1, 37), (1, 7), (1, 9), (1, 43)] [zR 1, zI 4294967296] hTx_42 [(zI 4294967296, hTx_42_o0)]
theorem m_textR_42 {d : Nat} : zMet (d := d) X_X9_text yX9_text 413 g_textR_42 := zMet_smL (zMet_cutR (m_X9_textt _ _ (zMet_en (ci := 9) rfl rfl (by decide) m_U42_0))) e_T_42
noncomputable def zk_99_zs2_59_x1_textR_28 : zT 3 := @Prod.mk (zT 2) (zT 2) zk_99_zs2_59_x1_textR_24 (((0, 121, zun 40 121 4294967296), (1, 11, 0x1000000000100000000010000000001000000000100000000010000000000000000010000000001000000000100000000000000000001)), ((0, 121, zun 40 121 4294967296), (1, 11, 0x1000000000100000000010000000001000000000100000000010000000000000000000000000001000000000100000000010000000001)))
noncomputable def hTx_43 : zH 5 := (show zT 5 from ((zk_99_zs2_59_x1_textR_23, zk_99_zs2_59_x1_textR_28), zk_99_zs2_59_x1_textR_26), (18, (0, 0)))
noncomputable def hTx_43_o0 : zH 5 := (show zT 5 from ((zk_99_zs2_59_x1_textR_27, zk_99_zs2_59_x1_textR_28), zk_99_zs2_59_x1_textR_26), (18, (0, 0)))
set_option maxRecDepth 100000 in
theorem e_T_43 : (zcutR 1 6 (f_X9_textt (zenT 25 47 g_U43_0))) [zR 1, zI 4294967296] hTx_43 (zrkL [(zI 4294967296, hTx_43_o0)]) = true := by decide +kernel
noncomputable def g_textR_43 {d : Nat} : List zV → zH d → zP d → Bool := zsmyL [(0, 0), (1, 45), (1, 51), (1, 52), (1, 56), (1, 57), (1, 58), (1, 60), (1, 62), (1, 3), (1, 4), (1, 14), (1, 40), (1, 8), (1, 37), (1, 7), (1, 9), (1, 43)] [zR 1, zI 4294967296] hTx_43 [(zI 4294967296, hTx_43_o0)]
theorem m_textR_43 {d : Nat} : zMet (d := d) X_X9_text yX9_text 413 g_textR_43 := zMet_smL (zMet_cutR (m_X9_textt _ _ (zMet_en (ci := 9) rfl rfl (by decide) m_U43_0))) e_T_43
noncomputable def zk_99_zs2_59_x1_textR_29 : zT 1 := @Prod.mk (zT 0) (zT 0) (0, 121, zun 40 121 4294967296) (1, 11, 0x1000000000100000000010000000001000000000100000000010000000000000000010000000001000000000100000000010000000001)
noncomputable def zk_99_zs2_59_x1_textR_30 : zT 3 := @Prod.mk (zT 2) (zT 2) zk_99_zs2_59_x1_textR_24 (zk_99_zs2_59_x1_textR_29, zk_99_zs2_59_x1_textR_29)
noncomputable def hTx_45 : zH 5 := (show zT 5 from ((zk_99_zs2_59_x1_textR_23, zk_99_zs2_59_x1_textR_30), zk_99_zs2_59_x1_textR_26), (18, (0, 0)))
noncomputable def hTx_45_o0 : zH 5 := (show zT 5 from ((zk_99_zs2_59_x1_textR_27, zk_99_zs2_59_x1_textR_30), zk_99_zs2_59_x1_textR_26), (18, (0, 0)))
set_option maxRecDepth 100000 in
theorem e_T_45 : (zcutR 1 6 (f_X9_textt (zenT 25 47 g_U45_0))) [zR 1, zI 4294967296] hTx_45 (zrkL [(zI 4294967296, hTx_45_o0)]) = true := by decide +kernel
noncomputable def g_textR_45 {d : Nat} : List zV → zH d → zP d → Bool := zsmyL [(0, 0), (1, 45), (1, 51), (1, 52), (1, 56), (1, 57), (1, 58), (1, 60), (1, 62), (1, 3), (1, 4), (1, 14), (1, 40), (1, 8), (1, 37), (1, 7), (1, 9), (1, 43)] [zR 1, zI 4294967296] hTx_45 [(zI 4294967296, hTx_45_o0)]
theorem m_textR_45 {d : Nat} : zMet (d := d) X_X9_text yX9_text 413 g_textR_45 := zMet_smL (zMet_cutR (m_X9_textt _ _ (zMet_en (ci := 9) rfl rfl (by decide) m_U45_0))) e_T_45
noncomputable def zk_99_zs2_59_x1_textR_31 : zT 3 := @Prod.mk (zT 2) (zT 2) (((25, 63, 0x90100000000000000000801000000050000000007000000000600000000050100000000010000000001000000150000000004000000000301000000150100000000010000000001000000c901000000c90000000002800000002d0000000012800000002b800000002a000000000d80000000288000000027000000000f800000002580000000248000000023800000002280000000218000000020800000001f800000001e800000001d800000001c800000001b800000001a8000000019800000001880000000178000000016800000001580000000148000000013800000001280000000118000000010000000000c800000000e800000000d800000000c800000000b0000000011000000000e000000001080000000078000000006000000000b000000000a000000000780000000028000000001), (0, 200, zun 40 200 4294967296)), zk_99_zs2_59_x1_textR_0) zk_99_zs2_59_x1_textR_2
noncomputable def zk_99_zs2_59_x1_textR_32 : zT 2 := @Prod.mk (zT 1) (zT 1) (zk_99_zs2_59_x1_textR_1, (0, 66, 0x10000000001000000000100000000010000000001000000000100000000010000000001000000000100000000010000000001000000000100000000010000000001000000000100000000010000000001000000000100000000010000000001000000000100000000010000000001000000000100000000000000000000000000010000000001000000000100000000010000000001000000000000000000000000000001000000000100000000010000000002000000000000000000000000000000000000000100000000020000000002000000000000000000000000000000000000000100000000010000000003000000000000000000000000000000000000000000000000020000000003000000000000000000000000000000000000000000000000010000000004000000000000000000000000000000000000000000000000000000000005)) ((0, 11, 0x1000000000100000000010000000001000000000000000005000000000400000000030000000003000000000200000000020000000001), (0, 121, zun 40 121 4294967296))
noncomputable def zk_99_zs2_59_x1_textR_33 : zT 3 := @Prod.mk (zT 2) (zT 2) zk_99_zs2_59_x1_textR_32 (((0, 121, zun 40 121 4294967296), (1, 11, 0x1000000000100000000010000000001000000000000000001000000000000000000000000000001000000000000000000000000000001)), ((0, 121, zun 40 121 4294967296), (1, 11, 0x1000000000100000000010000000001000000000000000000000000000000000000000000000000000000000100000000010000000001)))
noncomputable def zk_99_zs2_59_x1_textR_34 : zT 4 := @Prod.mk (zT 3) (zT 3) ((((0, 11, 0x100000000010000000001000000000100000000000000000100ffffffff0000000001000000000100ffffffff00ffffffff0000000001), (2, 66, zun 72 66 18446744073709551616)), zO1), zO2) zO3
noncomputable def hTx_52 : zH 5 := (show zT 5 from ((zk_99_zs2_59_x1_textR_31, zk_99_zs2_59_x1_textR_33), zk_99_zs2_59_x1_textR_34), (18, (0, 0)))
noncomputable def zk_99_zs2_59_x1_textR_35 : zT 3 := @Prod.mk (zT 2) (zT 2) (((25, 63, 0x90100000000000000000801000000050000000007000000000600000000050100000000010000000001000000100000000004000000000301000000150100000000010000000001000000c900000000000000000002800000002d0000000012800000002b800000002a000000000d80000000288000000027000000000f800000002580000000248000000023800000002280000000218000000020800000001f800000001e800000001d800000001c800000001b800000001a8000000019800000001880000000178000000016800000001580000000148000000013800000001280000000118000000010000000000c800000000e800000000d800000000c800000000b0000000011000000000e000000001080000000078000000006000000000b000000000a000000000780000000028000000001), (0, 200, zun 40 200 4294967296)), zk_99_zs2_59_x1_textR_0) zk_99_zs2_59_x1_textR_2
noncomputable def hTx_52_o0 : zH 5 := (show zT 5 from ((zk_99_zs2_59_x1_textR_35, zk_99_zs2_59_x1_textR_33), zk_99_zs2_59_x1_textR_34), (18, (0, 0)))
set_option maxRecDepth 100000 in
theorem e_T_52 : (zcutR 1 6 (f_X9_textt (zenT 25 47 g_U52_0))) [zR 1, zI 4294967296] hTx_52 (zrkL [(zI 4294967296, hTx_52_o0)]) = true := by decide +kernel
noncomputable def g_textR_52 {d : Nat} : List zV → zH d → zP d → Bool := zsmyL [(0, 0), (1, 45), (1, 51), (1, 52), (1, 56), (1, 57), (1, 58), (1, 60), (1, 62), (1, 3), (1, 4), (1, 14), (1, 40), (1, 8), (1, 37), (1, 7), (1, 9), (1, 43)] [zR 1, zI 4294967296] hTx_52 [(zI 4294967296, hTx_52_o0)]
theorem m_textR_52 {d : Nat} : zMet (d := d) X_X9_text yX9_text 413 g_textR_52 := zMet_smL (zMet_cutR (m_X9_textt _ _ (zMet_en (ci := 9) rfl rfl (by decide) m_U52_0))) e_T_52
noncomputable def zk_99_zs2_59_x1_textR_36 : zT 3 := @Prod.mk (zT 2) (zT 2) zk_99_zs2_59_x1_textR_32 (((0, 121, zun 40 121 4294967296), (1, 11, 0x1000000000100000000010000000001000000000000000001000000000100000000010000000000000000000000000000010000000001)), ((0, 121, zun 40 121 4294967296), (1, 11, 0x1000000000100000000010000000001000000000000000000000000000000000000010000000001000000000100000000010000000001)))
noncomputable def hTx_53 : zH 5 := (show zT 5 from ((zk_99_zs2_59_x1_textR_31, zk_99_zs2_59_x1_textR_36), zk_99_zs2_59_x1_textR_34), (18, (0, 0)))
noncomputable def hTx_53_o0 : zH 5 := (show zT 5 from ((zk_99_zs2_59_x1_textR_35, zk_99_zs2_59_x1_textR_36), zk_99_zs2_59_x1_textR_34), (18, (0, 0)))
set_option maxRecDepth 100000 in
theorem e_T_53 : (zcutR 1 6 (f_X9_textt (zenT 25 47 g_U53_0))) [zR 1, zI 4294967296] hTx_53 (zrkL [(zI 4294967296, hTx_53_o0)]) = true := by decide +kernel
noncomputable def g_textR_53 {d : Nat} : List zV → zH d → zP d → Bool := zsmyL [(0, 0), (1, 45), (1, 51), (1, 52), (1, 56), (1, 57), (1, 58), (1, 60), (1, 62), (1, 3), (1, 4), (1, 14), (1, 40), (1, 8), (1, 37), (1, 7), (1, 9), (1, 43)] [zR 1, zI 4294967296] hTx_53 [(zI 4294967296, hTx_53_o0)]
theorem m_textR_53 {d : Nat} : zMet (d := d) X_X9_text yX9_text 413 g_textR_53 := zMet_smL (zMet_cutR (m_X9_textt _ _ (zMet_en (ci := 9) rfl rfl (by decide) m_U53_0))) e_T_53
noncomputable def zk_99_zs2_59_x1_textR_37 : zT 3 := @Prod.mk (zT 2) (zT 2) zk_99_zs2_59_x1_textR_32 (((0, 121, zun 40 121 4294967296), (1, 11, 0x1000000000100000000010000000001000000000000000001000000000100000000010000000001000000000100000000010000000000)), ((0, 121, zun 40 121 4294967296), (1, 11, 0x1000000000100000000010000000001000000000000000000000000000100000000010000000001000000000100000000010000000001)))
noncomputable def hTx_55 : zH 5 := (show zT 5 from ((zk_99_zs2_59_x1_textR_31, zk_99_zs2_59_x1_textR_37), zk_99_zs2_59_x1_textR_34), (18, (0, 0)))
noncomputable def hTx_55_o0 : zH 5 := (show zT 5 from ((zk_99_zs2_59_x1_textR_35, zk_99_zs2_59_x1_textR_37), zk_99_zs2_59_x1_textR_34), (18, (0, 0)))
set_option maxRecDepth 100000 in
theorem e_T_55 : (zcutR 1 6 (f_X9_textt (zenT 25 47 g_U55_0))) [zR 1, zI 4294967296] hTx_55 (zrkL [(zI 4294967296, hTx_55_o0)]) = true := by decide +kernel
noncomputable def g_textR_55 {d : Nat} : List zV → zH d → zP d → Bool := zsmyL [(0, 0), (1, 45), (1, 51), (1, 52), (1, 56), (1, 57), (1, 58), (1, 60), (1, 62), (1, 3), (1, 4), (1, 14), (1, 40), (1, 8), (1, 37), (1, 7), (1, 9), (1, 43)] [zR 1, zI 4294967296] hTx_55 [(zI 4294967296, hTx_55_o0)]
theorem m_textR_55 {d : Nat} : zMet (d := d) X_X9_text yX9_text 413 g_textR_55 := zMet_smL (zMet_cutR (m_X9_textt _ _ (zMet_en (ci := 9) rfl rfl (by decide) m_U55_0))) e_T_55
noncomputable def zk_99_zs2_59_x1_textR_38 : zT 1 := @Prod.mk (zT 0) (zT 0) (0, 121, zun 40 121 4294967296) (1, 11, 0x1000000000100000000010000000001000000000000000001000000000100000000010000000001000000000100000000010000000001)
noncomputable def zk_99_zs2_59_x1_textR_39 : zT 3 := @Prod.mk (zT 2) (zT 2) zk_99_zs2_59_x1_textR_32 (zk_99_zs2_59_x1_textR_38, zk_99_zs2_59_x1_textR_38)
noncomputable def hTx_57 : zH 5 := (show zT 5 from ((zk_99_zs2_59_x1_textR_31, zk_99_zs2_59_x1_textR_39), zk_99_zs2_59_x1_textR_34), (18, (0, 0)))
noncomputable def hTx_57_o0 : zH 5 := (show zT 5 from ((zk_99_zs2_59_x1_textR_35, zk_99_zs2_59_x1_textR_39), zk_99_zs2_59_x1_textR_34), (18, (0, 0)))
set_option maxRecDepth 100000 in
theorem e_T_57 : (zcutR 1 6 (f_X9_textt (zenT 25 47 g_U57_0))) [zR 1, zI 4294967296] hTx_57 (zrkL [(zI 4294967296, hTx_57_o0)]) = true := by decide +kernel
noncomputable def g_textR_57 {d : Nat} : List zV → zH d → zP d → Bool := zsmyL [(0, 0), (1, 45), (1, 51), (1, 52), (1, 56), (1, 57), (1, 58), (1, 60), (1, 62), (1, 3), (1, 4), (1, 14), (1, 40), (1, 8), (1, 37), (1, 7), (1, 9), (1, 43)] [zR 1, zI 4294967296] hTx_57 [(zI 4294967296, hTx_57_o0)]
theorem m_textR_57 {d : Nat} : zMet (d := d) X_X9_text yX9_text 413 g_textR_57 := zMet_smL (zMet_cutR (m_X9_textt _ _ (zMet_en (ci := 9) rfl rfl (by decide) m_U57_0))) e_T_57
noncomputable def zk_99_zs2_59_x1_textR_40 : zT 3 := @Prod.mk (zT 2) (zT 2) (((25, 63, 0x90100000000000000000801000000050000000007000000000600000000050100000000010000000001000000150000000004000000000301000000150100000000010000000001000000c901000000c90000000002800000002d0000000012800000002b800000002a000000000d80000000288000000027000000000f800000002580000000248000000023800000002280000000218000000020800000001f800000001e800000001d800000001c800000001b800000001a8000000019800000001880000000178000000016800000001580000000148000000013800000001280000000118000000010000000000c800000000e800000000d800000000c800000000b0000000011000000000e000000001080000000078000000006000000000b000000000a000000000b80000000028000000001), (0, 200, zun 40 200 4294967296)), zk_99_zs2_59_x1_textR_0) zk_99_zs2_59_x1_textR_2
noncomputable def zk_99_zs2_59_x1_textR_41 : zT 2 := @Prod.mk (zT 1) (zT 1) (zk_99_zs2_59_x1_textR_1, (0, 66, 0x100000000010000000001000000000100000000010000000001000000000000000000010000000001000000000100000000010000000002000000000000000000000000000001000000000100000000020000000002000000000000000000000000000000000000000200000000020000000002000000000000000000000000000001000000000100000000010000000003000000000000000000000000000000000000000100000000020000000003000000000000000000000000000000000000000000000000030000000003000000000000000000000000000000000000000100000000010000000004000000000000000000000000000000000000000000000000020000000004000000000000000000000000000000000000000000000000010000000005000000000000000000000000000000000000000000000000000000000006)) ((0, 11, 0x60000000005000000000400000000030000000004000000000300000000020000000003000000000200000000020000000001), (0, 121, zun 40 121 4294967296))
noncomputable def zk_99_zs2_59_x1_textR_42 : zT 3 := @Prod.mk (zT 2) (zT 2) zk_99_zs2_59_x1_textR_41 (((0, 121, zun 40 121 4294967296), (1, 11, 0x10000000000000000000000000000000000000001000000000000000000010000000000000000000000000000010000000000)), ((0, 121, zun 40 121 4294967296), (1, 11, 0x100000000000000000000000000000100000000010000000001)))
noncomputable def zk_99_zs2_59_x1_textR_43 : zT 4 := @Prod.mk (zT 3) (zT 3) ((((0, 11, 0x100ffffffff000000000100ffffffff000000000100ffffffff000000000100ffffffff0000000001000000000100ffffffff), (2, 66, zun 72 66 18446744073709551616)), zO1), zO2) zO3
noncomputable def hTx_62 : zH 5 := (show zT 5 from ((zk_99_zs2_59_x1_textR_40, zk_99_zs2_59_x1_textR_42), zk_99_zs2_59_x1_textR_43), (18, (0, 0)))
noncomputable def zk_99_zs2_59_x1_textR_44 : zT 3 := @Prod.mk (zT 2) (zT 2) (((25, 63, 0x90100000000000000000801000000050000000007000000000600000000050100000000010000000001000000100000000004000000000301000000150100000000010000000001000000c900000000000000000002800000002d0000000012800000002b800000002a000000000d80000000288000000027000000000f800000002580000000248000000023800000002280000000218000000020800000001f800000001e800000001d800000001c800000001b800000001a8000000019800000001880000000178000000016800000001580000000148000000013800000001280000000118000000010000000000c800000000e800000000d800000000c800000000b0000000011000000000e000000001080000000078000000006000000000b000000000a000000000b80000000028000000001), (0, 200, zun 40 200 4294967296)), zk_99_zs2_59_x1_textR_0) zk_99_zs2_59_x1_textR_2
noncomputable def hTx_62_o0 : zH 5 := (show zT 5 from ((zk_99_zs2_59_x1_textR_44, zk_99_zs2_59_x1_textR_42), zk_99_zs2_59_x1_textR_43), (18, (0, 0)))
set_option maxRecDepth 100000 in
theorem e_T_62 : (zcutR 1 6 (f_X9_textt (zenT 25 47 g_U62_0))) [zR 1, zI 4294967296] hTx_62 (zrkL [(zI 4294967296, hTx_62_o0)]) = true := by decide +kernel
noncomputable def g_textR_62 {d : Nat} : List zV → zH d → zP d → Bool := zsmyL [(0, 0), (1, 45), (1, 51), (1, 52), (1, 56), (1, 57), (1, 58), (1, 60), (1, 62), (1, 3), (1, 4), (1, 14), (1, 40), (1, 8), (1, 37), (1, 7), (1, 9), (1, 43)] [zR 1, zI 4294967296] hTx_62 [(zI 4294967296, hTx_62_o0)]
theorem m_textR_62 {d : Nat} : zMet (d := d) X_X9_text yX9_text 413 g_textR_62 := zMet_smL (zMet_cutR (m_X9_textt _ _ (zMet_en (ci := 9) rfl rfl (by decide) m_U62_0))) e_T_62
noncomputable def zk_99_zs2_59_x1_textR_45 : zT 3 := @Prod.mk (zT 2) (zT 2) zk_99_zs2_59_x1_textR_41 (((0, 121, zun 40 121 4294967296), (1, 11, 0x10000000001000000000100000000010000000000000000000000000000000000000001000000000100000000010000000000)), ((0, 121, zun 40 121 4294967296), (1, 11, 0x100000000000000000000000000000100000000010000000001000000000100000000010000000001)))
noncomputable def hTx_63 : zH 5 := (show zT 5 from ((zk_99_zs2_59_x1_textR_40, zk_99_zs2_59_x1_textR_45), zk_99_zs2_59_x1_textR_43), (18, (0, 0)))
noncomputable def hTx_63_o0 : zH 5 := (show zT 5 from ((zk_99_zs2_59_x1_textR_44, zk_99_zs2_59_x1_textR_45), zk_99_zs2_59_x1_textR_43), (18, (0, 0)))
set_option maxRecDepth 100000 in
theorem e_T_63 : (zcutR 1 6 (f_X9_textt (zenT 25 47 g_U63_0))) [zR 1, zI 4294967296] hTx_63 (zrkL [(zI 4294967296, hTx_63_o0)]) = true := by decide +kernel
noncomputable def g_textR_63 {d : Nat} : List zV → zH d → zP d → Bool := zsmyL [(0, 0), (1, 45), (1, 51), (1, 52), (1, 56), (1, 57), (1, 58), (1, 60), (1, 62), (1, 3), (1, 4), (1, 14), (1, 40), (1, 8), (1, 37), (1, 7), (1, 9), (1, 43)] [zR 1, zI 4294967296] hTx_63 [(zI 4294967296, hTx_63_o0)]
theorem m_textR_63 {d : Nat} : zMet (d := d) X_X9_text yX9_text 413 g_textR_63 := zMet_smL (zMet_cutR (m_X9_textt _ _ (zMet_en (ci := 9) rfl rfl (by decide) m_U63_0))) e_T_63
noncomputable def zk_99_zs2_59_x1_textR_46 : zT 3 := @Prod.mk (zT 2) (zT 2) zk_99_zs2_59_x1_textR_41 (((0, 121, zun 40 121 4294967296), (1, 11, 0x10000000001000000000100000000010000000001000000000100000000010000000001000000000100000000000000000001)), ((0, 121, zun 40 121 4294967296), (1, 11, 0x1000000000100000000010000000001000000000100000000010000000001000000000100000000010000000001)))
noncomputable def hTx_65 : zH 5 := (show zT 5 from ((zk_99_zs2_59_x1_textR_40, zk_99_zs2_59_x1_textR_46), zk_99_zs2_59_x1_textR_43), (18, (0, 0)))
noncomputable def hTx_65_o0 : zH 5 := (show zT 5 from ((zk_99_zs2_59_x1_textR_44, zk_99_zs2_59_x1_textR_46), zk_99_zs2_59_x1_textR_43), (18, (0, 0)))
set_option maxRecDepth 100000 in
theorem e_T_65 : (zcutR 1 6 (f_X9_textt (zenT 25 47 g_U65_0))) [zR 1, zI 4294967296] hTx_65 (zrkL [(zI 4294967296, hTx_65_o0)]) = true := by decide +kernel
noncomputable def g_textR_65 {d : Nat} : List zV → zH d → zP d → Bool := zsmyL [(0, 0), (1, 45), (1, 51), (1, 52), (1, 56), (1, 57), (1, 58), (1, 60), (1, 62), (1, 3), (1, 4), (1, 14), (1, 40), (1, 8), (1, 37), (1, 7), (1, 9), (1, 43)] [zR 1, zI 4294967296] hTx_65 [(zI 4294967296, hTx_65_o0)]
theorem m_textR_65 {d : Nat} : zMet (d := d) X_X9_text yX9_text 413 g_textR_65 := zMet_smL (zMet_cutR (m_X9_textt _ _ (zMet_en (ci := 9) rfl rfl (by decide) m_U65_0))) e_T_65
noncomputable def zk_99_zs2_59_x1_textR_47 : zT 3 := @Prod.mk (zT 2) (zT 2) zk_99_zs2_59_x1_textR_41 (((0, 121, zun 40 121 4294967296), (1, 11, zun 40 11 1)), ((0, 121, zun 40 121 4294967296), (1, 11, zun 40 11 1)))
noncomputable def hTx_67 : zH 5 := (show zT 5 from ((zk_99_zs2_59_x1_textR_40, zk_99_zs2_59_x1_textR_47), zk_99_zs2_59_x1_textR_43), (18, (0, 0)))
noncomputable def hTx_67_o0 : zH 5 := (show zT 5 from ((zk_99_zs2_59_x1_textR_44, zk_99_zs2_59_x1_textR_47), zk_99_zs2_59_x1_textR_43), (18, (0, 0)))
set_option maxRecDepth 100000 in
theorem e_T_67 : (zcutR 1 6 (f_X9_textt (zenT 25 47 g_U67_0))) [zR 1, zI 4294967296] hTx_67 (zrkL [(zI 4294967296, hTx_67_o0)]) = true := by decide +kernel
noncomputable def g_textR_67 {d : Nat} : List zV → zH d → zP d → Bool := zsmyL [(0, 0), (1, 45), (1, 51), (1, 52), (1, 56), (1, 57), (1, 58), (1, 60), (1, 62), (1, 3), (1, 4), (1, 14), (1, 40), (1, 8), (1, 37), (1, 7), (1, 9), (1, 43)] [zR 1, zI 4294967296] hTx_67 [(zI 4294967296, hTx_67_o0)]
theorem m_textR_67 {d : Nat} : zMet (d := d) X_X9_text yX9_text 413 g_textR_67 := zMet_smL (zMet_cutR (m_X9_textt _ _ (zMet_en (ci := 9) rfl rfl (by decide) m_U67_0))) e_T_67
end
section
/-! the class reads: by program -/
theorem gfT_X2_60 [zGh] {d : Nat} {X : zM} {fr : Nat} {P : zP d} {pc : Nat} {k : zK d} (h1 : X.1 = RX2) (dg : decode X.2.1 pc = .ok (.getfield 60, 3)) (hs : zSim X fr P (pc + 3) k) : zSim X fr P pc (xgfT 18 14 k) := sm_getfieldT (ci := 2) (n := 14) (C := RX2) (T := TX2) (N := 15) rfl rfl inz2 rfl (by decide) rfl (by rw [h1]; exact wd_586) rfl dg hs
noncomputable def bX2_isDigitt_17 {d : Nat} (P : zP d) : zK d := (xzret P)
set_option maxRecDepth 100000 in
set_option maxHeartbeats 4000000 in
theorem sbX2_isDigitt_17 {d : Nat} [zGh] (P : zP d) : zSim X_X2_isDigit 1 P 17 (bX2_isDigitt_17 P) := by
  unfold bX2_isDigitt_17
  exact sm_zreturn (pc := 17) dX2_isDigit_17 rfl
noncomputable def bX2_isDigitt_16 {d : Nat} (P : zP d) (j17 : zK d) : zK d := (xpI 0 j17)
set_option maxRecDepth 100000 in
set_option maxHeartbeats 4000000 in
theorem sbX2_isDigitt_16 {d : Nat} [zGh] (P : zP d) (j17 : zK d) (hj17 : zSimJ 1 X_X2_isDigit 1 P 17 j17) : zSim X_X2_isDigit 1 P 16 (bX2_isDigitt_16 P j17) := by
  unfold bX2_isDigitt_16
  refine sm_iconst (pc := 16) dX2_isDigit_16 zc_i_0 ?_
  exact hj17.use
noncomputable def b_X2_isDigitt {d : Nat} (P : zP d) : zK d := (xild 0 (xpI 48 (xjoin (bX2_isDigitt_17 P) (fun j17 => (xjoin (bX2_isDigitt_16 P j17) (fun j16 => (xcmpS tgeR rlGe rhS rlS rhLt (xild 0 (xpI 57 (xcmpS tleR rlS rhLe rlGt rhS (xpI 1 j17) j16))) j16)))))))
set_option maxRecDepth 100000 in
set_option maxHeartbeats 4000000 in
theorem s_X2_isDigitt {d : Nat} [zGh] (P : zP d) : zSim X_X2_isDigit 1 P 0 (b_X2_isDigitt P) := by
  unfold b_X2_isDigitt
  refine sm_iload_n (pc := 0) (n := 0) dX2_isDigit_0 rfl ?_
  refine sm_bipush (pc := 1) dX2_isDigit_1 zc_b_48 ?_
  refine sm_joinJ (pc := 3) (pc' := 17) (j := 1) (fun G0 hG0 => @sbX2_isDigitt_17 d G0 P) (fun j17 hj17 => ?_)
  refine sm_joinJ (pc := 3) (pc' := 16) (j := 1) (fun G0 hG0 => @sbX2_isDigitt_16 d G0 P j17 (hj17.mv hG0 (by decide))) (fun j16 hj16 => ?_)
  refine sm_icmpS_lt (pc := 3) (tgt := 16) dX2_isDigit_3 (by decide) ?_ ?_
  · skip
    exact hj16.use
  · skip
    refine sm_iload_n (pc := 6) (n := 0) dX2_isDigit_6 rfl ?_
    refine sm_bipush (pc := 7) dX2_isDigit_7 zc_b_57 ?_
    refine sm_icmpS_gt (pc := 9) (tgt := 16) dX2_isDigit_9 (by decide) ?_ ?_
    · skip
      exact hj16.use
    · skip
      refine sm_iconst (pc := 12) dX2_isDigit_12 zc_i_1 ?_
      refine sm_goto (pc := 13) (tgt := 17) dX2_isDigit_13 (by decide) ?_
      exact hj17.use
noncomputable def f_X2_isDigitt {d : Nat} : List zV → zH d → zP d → Bool := zfn 1 (b_X2_isDigitt )
theorem m_X2_isDigitt {d : Nat} : zMet (d := d) X_X2_isDigit yX2_isDigit 1 (f_X2_isDigitt ) := zmet_mk (X := X_X2_isDigit) (by decide) rfl rfl (fun P => s_X2_isDigitt P)

noncomputable def b_X1_cleart {d : Nat} (P : zP d) : zK d := (xaldV 0 (xpI 0 (xpfI 17 0 (xaldV 0 (xpI 4294967295 (xpfI 17 1 (xaldV 0 (xpI 0 (xpfI 17 3 (xvret P))))))))))
set_option maxRecDepth 100000 in
set_option maxHeartbeats 4000000 in
theorem s_X1_cleart {d : Nat} [zGh] (P : zP d) : zSim X_X1_clear 1 P 0 (b_X1_cleart P) := by
  unfold b_X1_cleart
  refine sm_aloadV_n (pc := 0) (n := 0) dX1_clear_0 rfl ?_
  refine sm_iconst (pc := 1) dX1_clear_1 zc_i_0 ?_
  refine pf_X1_21 (pc := 2) rfl dX1_clear_2 ?_
  refine sm_aloadV_n (pc := 5) (n := 0) dX1_clear_5 rfl ?_
  refine sm_iconst (pc := 6) dX1_clear_6 zc_i_m1 ?_
  refine pf_X1_9 (pc := 7) rfl dX1_clear_7 ?_
  refine sm_aloadV_n (pc := 10) (n := 0) dX1_clear_10 rfl ?_
  refine sm_iconst (pc := 11) dX1_clear_11 zc_i_0 ?_
  refine pf_X1_24 (pc := 12) rfl dX1_clear_12 ?_
  exact sm_vreturn (pc := 15) dX1_clear_15 rfl
noncomputable def f_X1_cleart {d : Nat} : List zV → zH d → zP d → Bool := zfn 1 (b_X1_cleart )
theorem m_X1_cleart {d : Nat} : zMet (d := d) X_X1_clear yX1_clear 1 (f_X1_cleart ) := zmet_mk (X := X_X1_clear) (by decide) rfl rfl (fun P => s_X1_cleart P)

noncomputable def b_X1_tellt {d : Nat} (P : zP d) : zK d := (xaldV 0 (xild 1 (xpfI 17 0 (xaldV 0 (xild 2 (xpfI 17 1 (xaldV 0 (xpI 0 (xpfI 17 3 (xvret P))))))))))
set_option maxRecDepth 100000 in
set_option maxHeartbeats 4000000 in
theorem s_X1_tellt {d : Nat} [zGh] (P : zP d) : zSim X_X1_tell 1 P 0 (b_X1_tellt P) := by
  unfold b_X1_tellt
  refine sm_aloadV_n (pc := 0) (n := 0) dX1_tell_0 rfl ?_
  refine sm_iload_n (pc := 1) (n := 1) dX1_tell_1 rfl ?_
  refine pf_X1_21 (pc := 2) rfl dX1_tell_2 ?_
  refine sm_aloadV_n (pc := 5) (n := 0) dX1_tell_5 rfl ?_
  refine sm_iload_n (pc := 6) (n := 2) dX1_tell_6 rfl ?_
  refine pf_X1_9 (pc := 7) rfl dX1_tell_7 ?_
  refine sm_aloadV_n (pc := 10) (n := 0) dX1_tell_10 rfl ?_
  refine sm_iconst (pc := 11) dX1_tell_11 zc_i_0 ?_
  refine pf_X1_24 (pc := 12) rfl dX1_tell_12 ?_
  exact sm_vreturn (pc := 15) dX1_tell_15 rfl
noncomputable def f_X1_tellt {d : Nat} : List zV → zH d → zP d → Bool := zfn 3 (b_X1_tellt )
theorem m_X1_tellt {d : Nat} : zMet (d := d) X_X1_tell yX1_tell 1 (f_X1_tellt ) := zmet_mk (X := X_X1_tell) (by decide) rfl rfl (fun P => s_X1_tellt P)

noncomputable def bX1_addWithint_32 {d : Nat} (P : zP d) : zK d := (xvret P)
set_option maxRecDepth 100000 in
set_option maxHeartbeats 4000000 in
theorem sbX1_addWithint_32 {d : Nat} [zGh] (P : zP d) : zSim X_X1_addWithin 1 P 32 (bX1_addWithint_32 P) := by
  unfold bX1_addWithint_32
  exact sm_vreturn (pc := 32) dX1_addWithin_32 rfl
noncomputable def b_X1_addWithint {d : Nat} (P : zP d) : zK d := (xaldV 0 (xgfI 17 3 (xaldV 0 (xgfR 17 2 (xlen (xjoin (bX1_addWithint_32 P) (fun j32 => (xcmpS tgeR rlGe rhS rlS rhLt j32 (xaldV 0 (xgfR 17 2 (xaldV 0 (xgfI 17 3 (xild 1 (xasQ 0 (fun v => v) (xaldV 0 (xdup (xgfI 17 3 (xpI 1 (xbin zaddR (xpfI 17 3 j32))))))))))))))))))))
set_option maxRecDepth 100000 in
set_option maxHeartbeats 4000000 in
theorem s_X1_addWithint {d : Nat} [zGh] (P : zP d) : zSim X_X1_addWithin 1 P 0 (b_X1_addWithint P) := by
  unfold b_X1_addWithint
  refine sm_aloadV_n (pc := 0) (n := 0) dX1_addWithin_0 rfl ?_
  refine gf_X1_24 (pc := 1) rfl dX1_addWithin_1 ?_
  refine sm_aloadV_n (pc := 4) (n := 0) dX1_addWithin_4 rfl ?_
  refine gf_X1_17 (pc := 5) rfl dX1_addWithin_5 ?_
  refine sm_arraylength (pc := 8) dX1_addWithin_8 ?_
  refine sm_joinJ (pc := 9) (pc' := 32) (j := 1) (fun G0 hG0 => @sbX1_addWithint_32 d G0 P) (fun j32 hj32 => ?_)
  refine sm_icmpS_ge (pc := 9) (tgt := 32) dX1_addWithin_9 (by decide) ?_ ?_
  · skip
    exact hj32.use
  · skip
    refine sm_aloadV_n (pc := 12) (n := 0) dX1_addWithin_12 rfl ?_
    refine gf_X1_17 (pc := 13) rfl dX1_addWithin_13 ?_
    refine sm_aloadV_n (pc := 16) (n := 0) dX1_addWithin_16 rfl ?_
    refine gf_X1_24 (pc := 17) rfl dX1_addWithin_17 ?_
    refine sm_iload_n (pc := 20) (n := 1) dX1_addWithin_20 rfl ?_
    refine sm_iastoreQ (pc := 21) dX1_addWithin_21 ?_
    refine sm_aloadV_n (pc := 22) (n := 0) dX1_addWithin_22 rfl ?_
    refine sm_dup (pc := 23) dX1_addWithin_23 ?_
    refine gf_X1_24 (pc := 24) rfl dX1_addWithin_24 ?_
    refine sm_iconst (pc := 27) dX1_addWithin_27 zc_i_1 ?_
    refine sm_iaddR (pc := 28) dX1_addWithin_28 ?_
    refine pf_X1_24 (pc := 29) rfl dX1_addWithin_29 ?_
    exact hj32.use
noncomputable def f_X1_addWithint {d : Nat} : List zV → zH d → zP d → Bool := zfn 2 (b_X1_addWithint )
theorem m_X1_addWithint {d : Nat} : zMet (d := d) X_X1_addWithin yX1_addWithin 1 (f_X1_addWithint ) := zmet_mk (X := X_X1_addWithin) (by decide) rfl rfl (fun P => s_X1_addWithint P)

noncomputable def bX8_isSlott_15 {d : Nat} (P : zP d) : zK d := (xzret P)
set_option maxRecDepth 100000 in
set_option maxHeartbeats 4000000 in
theorem sbX8_isSlott_15 {d : Nat} [zGh] (P : zP d) : zSim X_X8_isSlot 1 P 15 (bX8_isSlott_15 P) := by
  unfold bX8_isSlott_15
  exact sm_zreturn (pc := 15) dX8_isSlot_15 rfl
noncomputable def bX8_isSlott_14 {d : Nat} (P : zP d) (j15 : zK d) : zK d := (xpI 0 j15)
set_option maxRecDepth 100000 in
set_option maxHeartbeats 4000000 in
theorem sbX8_isSlott_14 {d : Nat} [zGh] (P : zP d) (j15 : zK d) (hj15 : zSimJ 1 X_X8_isSlot 1 P 15 j15) : zSim X_X8_isSlot 1 P 14 (bX8_isSlott_14 P j15) := by
  unfold bX8_isSlott_14
  refine sm_iconst (pc := 14) dX8_isSlot_14 zc_i_0 ?_
  exact hj15.use
noncomputable def b_X8_isSlott {d : Nat} (P : zP d) : zK d := (xild 0 (xjoin (bX8_isSlott_15 P) (fun j15 => (xjoin (bX8_isSlott_14 P j15) (fun j14 => (xif0S tgeR rlGe rhS rlS rhLt (xild 0 (xpI 6 (xcmpS tgeR rlGe rhS rlS rhLt j14 (xpI 1 j15)))) j14))))))
set_option maxRecDepth 100000 in
set_option maxHeartbeats 4000000 in
theorem s_X8_isSlott {d : Nat} [zGh] (P : zP d) : zSim X_X8_isSlot 1 P 0 (b_X8_isSlott P) := by
  unfold b_X8_isSlott
  refine sm_iload_n (pc := 0) (n := 0) dX8_isSlot_0 rfl ?_
  refine sm_joinJ (pc := 1) (pc' := 15) (j := 1) (fun G0 hG0 => @sbX8_isSlott_15 d G0 P) (fun j15 hj15 => ?_)
  refine sm_joinJ (pc := 1) (pc' := 14) (j := 1) (fun G0 hG0 => @sbX8_isSlott_14 d G0 P j15 (hj15.mv hG0 (by decide))) (fun j14 hj14 => ?_)
  refine sm_ifS_lt (pc := 1) (tgt := 14) dX8_isSlot_1 (by decide) ?_ ?_
  · skip
    exact hj14.use
  · skip
    refine sm_iload_n (pc := 4) (n := 0) dX8_isSlot_4 rfl ?_
    refine sm_bipush (pc := 5) dX8_isSlot_5 zc_b_6 ?_
    refine sm_icmpS_ge (pc := 7) (tgt := 14) dX8_isSlot_7 (by decide) ?_ ?_
    · skip
      exact hj14.use
    · skip
      refine sm_iconst (pc := 10) dX8_isSlot_10 zc_i_1 ?_
      refine sm_goto (pc := 11) (tgt := 15) dX8_isSlot_11 (by decide) ?_
      exact hj15.use
noncomputable def f_X8_isSlott {d : Nat} : List zV → zH d → zP d → Bool := zfn 1 (b_X8_isSlott )
theorem m_X8_isSlott {d : Nat} : zMet (d := d) X_X8_isSlot yX8_isSlot 1 (f_X8_isSlott ) := zmet_mk (X := X_X8_isSlot) (by decide) rfl rfl (fun P => s_X8_isSlott P)

noncomputable def bX5_isRegulart_15 {d : Nat} (P : zP d) : zK d := (xzret P)
set_option maxRecDepth 100000 in
set_option maxHeartbeats 4000000 in
theorem sbX5_isRegulart_15 {d : Nat} [zGh] (P : zP d) : zSim X_X5_isRegular 1 P 15 (bX5_isRegulart_15 P) := by
  unfold bX5_isRegulart_15
  exact sm_zreturn (pc := 15) dX5_isRegular_15 rfl
noncomputable def b_X5_isRegulart {d : Nat} (P : zP d) : zK d := (xaldV 0 (xgfR 21 2 (xild 1 (xalQ 0 (xpI 4294967295 (xjoin (bX5_isRegulart_15 P) (fun j15 => (xcmpS teqR rlEq rhEq rlNe rhNe (xpI 0 j15) (xpI 1 j15)))))))))
set_option maxRecDepth 100000 in
set_option maxHeartbeats 4000000 in
theorem s_X5_isRegulart {d : Nat} [zGh] (P : zP d) : zSim X_X5_isRegular 1 P 0 (b_X5_isRegulart P) := by
  unfold b_X5_isRegulart
  refine sm_aloadV_n (pc := 0) (n := 0) dX5_isRegular_0 rfl ?_
  refine gf_X5_24 (pc := 1) rfl dX5_isRegular_1 ?_
  refine sm_iload_n (pc := 4) (n := 1) dX5_isRegular_4 rfl ?_
  refine sm_ialoadQ (pc := 5) dX5_isRegular_5 ?_
  refine sm_iconst (pc := 6) dX5_isRegular_6 zc_i_m1 ?_
  refine sm_joinJ (pc := 7) (pc' := 15) (j := 1) (fun G0 hG0 => @sbX5_isRegulart_15 d G0 P) (fun j15 hj15 => ?_)
  refine sm_icmpS_eq (pc := 7) (tgt := 14) dX5_isRegular_7 (by decide) ?_ ?_
  · skip
    refine sm_iconst (pc := 14) dX5_isRegular_14 zc_i_0 ?_
    exact hj15.use
  · skip
    refine sm_iconst (pc := 10) dX5_isRegular_10 zc_i_1 ?_
    refine sm_goto (pc := 11) (tgt := 15) dX5_isRegular_11 (by decide) ?_
    exact hj15.use
noncomputable def f_X5_isRegulart {d : Nat} : List zV → zH d → zP d → Bool := zfn 2 (b_X5_isRegulart )
theorem m_X5_isRegulart {d : Nat} : zMet (d := d) X_X5_isRegular yX5_isRegular 1 (f_X5_isRegulart ) := zmet_mk (X := X_X5_isRegular) (by decide) rfl rfl (fun P => s_X5_isRegulart P)

noncomputable def uX2_nextt_58 {d : Nat} (P : zP d) (r0 : zK d) : zK d := r0
set_option maxRecDepth 100000 in
set_option maxHeartbeats 4000000 in
theorem suX2_nextt_58 {d : Nat} [zGh] (P : zP d) (r0 : zK d) (hr0 : zSimJ 1 X_X2_next 1 P 0 r0) : zSim X_X2_next 1 P 58 (uX2_nextt_58 P r0) := by
  unfold uX2_nextt_58
  refine sm_goto (pc := 58) (tgt := 0) dX2_next_58 (by decide) ?_
  exact hr0.use
noncomputable def bX2_nextt_48 {d : Nat} (P : zP d) (r0 : zK d) : zK d := (xaiT 18 14 (uX2_nextt_58 P r0))
set_option maxRecDepth 100000 in
set_option maxHeartbeats 4000000 in
theorem sbX2_nextt_48 {d : Nat} [zGh] (P : zP d) (r0 : zK d) (hr0 : zSimU 1 X_X2_next 1 P 0 r0) : zSim X_X2_next 1 P 48 (bX2_nextt_48 P r0) := by
  unfold bX2_nextt_48
  exact sm_aiT (pc := 48) (ci := 2) (n := 14) (C := RX2) (T := TX2) (N := 15) rfl rfl rfl zc_i_1 inz2 rfl (by decide) wd_586 rfl dX2_next_48 rfl dX2_next_49 dX2_next_50 dX2_next_53 dX2_next_54 (zput (C := RX2) (T := TX2) (N := 15) (ty0 := tyX2) (ty := .int) inz2 tyX2_ok nmX2 rfl (by decide) wd_586 rfl rfl dX2_next_55) (fun G2 hg0 hgm => @suX2_nextt_58 d G2 P r0 (hr0.up hg0 hgm))
noncomputable def cX2_nextt_87 {d : Nat} (P : zP d) : zK d := (xiret P)
set_option maxRecDepth 100000 in
set_option maxHeartbeats 4000000 in
theorem scX2_nextt_87 {d : Nat} [zGh] (P : zP d) : zSim X_X2_next 1 P 87 (cX2_nextt_87 P) := by
  unfold cX2_nextt_87
  refine sm_goto (pc := 87) (tgt := 91) dX2_next_87 (by decide) ?_
  exact sm_ireturn (pc := 91) dX2_next_91 rfl
noncomputable def lX2_nextt_0 {d : Nat} (P : zP d) (r0 : zK d) : zK d := (xfcU 18 14 10 22 1 (xfcU 18 14 10 22 1 (xpI 4294967295 (xiret P)) (xaldV 0 (xgfR 18 10 (xgfR 22 0 (xaldV 0 (xgfT 18 14 (xalQ 0 (xiret P)))))))) (xaldV 0 (xgfR 18 10 (xgfR 22 0 (xaldV 0 (xgfT 18 14 (xalQ 0 (xpI 32 (xjoin (bX2_nextt_48 P r0) (fun j48 => (xcmpS teqR rlEq rhEq rlNe rhNe j48 (xaldV 0 (xgfR 18 10 (xgfR 22 0 (xaldV 0 (xgfT 18 14 (xalQ 0 (xpI 10 (xcmpS teqR rlEq rhEq rlNe rhNe j48 (xfcU 18 14 10 22 1 (xpI 4294967295 (xiret P)) (xaldV 0 (xgfR 18 10 (xgfR 22 0 (xaldV 0 (xgfT 18 14 (xalQ 0 (cX2_nextt_87 P)))))))))))))))))))))))))))
set_option maxRecDepth 100000 in
set_option maxHeartbeats 4000000 in
theorem slX2_nextt_0 {d : Nat} [zGh] (P : zP d) (r0 : zK d) (hr0 : zSimU 1 X_X2_next 1 P 0 r0) : zSim X_X2_next 1 P 0 (lX2_nextt_0 P r0) := by
  unfold lX2_nextt_0
  refine sm_fcU (pc := 0) (tgt := 61) (ci := 2) (ci2 := 6) (n1 := 14) (n2 := 10) (n3 := 1) (C := RX2) (T := TX2) (N := 15) (C2 := RX6) (T2 := TX6) (N2 := 2) rfl rfl rfl rfl rfl inz2 rfl (by decide) (by decide) rfl inz6 rfl (by decide) rfl wd_586 rfl wd_582 rfl wd_39 rfl dX2_next_0 rfl dX2_next_1 dX2_next_4 rfl dX2_next_5 dX2_next_8 dX2_next_11 (by decide) ?_ ?_
  · skip
    refine sm_fcU (pc := 61) (tgt := 90) (ci := 2) (ci2 := 6) (n1 := 14) (n2 := 10) (n3 := 1) (C := RX2) (T := TX2) (N := 15) (C2 := RX6) (T2 := TX6) (N2 := 2) rfl rfl rfl rfl rfl inz2 rfl (by decide) (by decide) rfl inz6 rfl (by decide) rfl wd_586 rfl wd_582 rfl wd_39 rfl dX2_next_61 rfl dX2_next_62 dX2_next_65 rfl dX2_next_66 dX2_next_69 dX2_next_72 (by decide) ?_ ?_
    · skip
      refine sm_iconst (pc := 90) dX2_next_90 zc_i_m1 ?_
      exact sm_ireturn (pc := 91) dX2_next_91 rfl
    · skip
      refine sm_aloadV_n (pc := 75) (n := 0) dX2_next_75 rfl ?_
      refine gf_X2_42 (pc := 76) rfl dX2_next_76 ?_
      refine gf_X2_86 (pc := 79) rfl dX2_next_79 ?_
      refine sm_aloadV_n (pc := 82) (n := 0) dX2_next_82 rfl ?_
      refine gfT_X2_60 (pc := 83) rfl dX2_next_83 ?_
      refine sm_ialoadQ (pc := 86) dX2_next_86 ?_
      refine sm_goto (pc := 87) (tgt := 91) dX2_next_87 (by decide) ?_
      exact sm_ireturn (pc := 91) dX2_next_91 rfl
  · skip
    refine sm_aloadV_n (pc := 14) (n := 0) dX2_next_14 rfl ?_
    refine gf_X2_42 (pc := 15) rfl dX2_next_15 ?_
    refine gf_X2_86 (pc := 18) rfl dX2_next_18 ?_
    refine sm_aloadV_n (pc := 21) (n := 0) dX2_next_21 rfl ?_
    refine gfT_X2_60 (pc := 22) rfl dX2_next_22 ?_
    refine sm_ialoadQ (pc := 25) dX2_next_25 ?_
    refine sm_bipush (pc := 26) dX2_next_26 zc_b_32 ?_
    refine sm_joinJ (pc := 28) (pc' := 48) (j := 1) (fun G0 hG0 => @sbX2_nextt_48 d G0 P r0 (hr0.mv hG0 (by decide))) (fun j48 hj48 => ?_)
    refine sm_icmpS_eq (pc := 28) (tgt := 48) dX2_next_28 (by decide) ?_ ?_
    · skip
      exact hj48.use
    · skip
      refine sm_aloadV_n (pc := 31) (n := 0) dX2_next_31 rfl ?_
      refine gf_X2_42 (pc := 32) rfl dX2_next_32 ?_
      refine gf_X2_86 (pc := 35) rfl dX2_next_35 ?_
      refine sm_aloadV_n (pc := 38) (n := 0) dX2_next_38 rfl ?_
      refine gfT_X2_60 (pc := 39) rfl dX2_next_39 ?_
      refine sm_ialoadQ (pc := 42) dX2_next_42 ?_
      refine sm_bipush (pc := 43) dX2_next_43 zc_b_10 ?_
      refine sm_icmpS_ne (pc := 45) (tgt := 61) dX2_next_45 (by decide) ?_ ?_
      · skip
        refine sm_fcU (pc := 61) (tgt := 90) (ci := 2) (ci2 := 6) (n1 := 14) (n2 := 10) (n3 := 1) (C := RX2) (T := TX2) (N := 15) (C2 := RX6) (T2 := TX6) (N2 := 2) rfl rfl rfl rfl rfl inz2 rfl (by decide) (by decide) rfl inz6 rfl (by decide) rfl wd_586 rfl wd_582 rfl wd_39 rfl dX2_next_61 rfl dX2_next_62 dX2_next_65 rfl dX2_next_66 dX2_next_69 dX2_next_72 (by decide) ?_ ?_
        · skip
          refine sm_iconst (pc := 90) dX2_next_90 zc_i_m1 ?_
          exact sm_ireturn (pc := 91) dX2_next_91 rfl
        · skip
          refine sm_aloadV_n (pc := 75) (n := 0) dX2_next_75 rfl ?_
          refine gf_X2_42 (pc := 76) rfl dX2_next_76 ?_
          refine gf_X2_86 (pc := 79) rfl dX2_next_79 ?_
          refine sm_aloadV_n (pc := 82) (n := 0) dX2_next_82 rfl ?_
          refine gfT_X2_60 (pc := 83) rfl dX2_next_83 ?_
          refine sm_ialoadQ (pc := 86) dX2_next_86 ?_
          exact scX2_nextt_87 P
      · skip
        exact hj48.use
noncomputable def b_X2_nextt {d : Nat} (P : zP d) : zK d := (xlpA 18 14 (wkF 0 [] 14 274877906944 wkE) (fun r0 => (lX2_nextt_0 P r0)))
set_option maxRecDepth 100000 in
set_option maxHeartbeats 4000000 in
theorem s_X2_nextt {d : Nat} [zGh] (P : zP d) : zSim X_X2_next 1 P 0 (b_X2_nextt P) := by
  unfold b_X2_nextt
  exact sm_lpA (ci := 2) rfl rfl (by decide) (wkF_ok wkE_ok) (fun G1 r0 hr0 => @slX2_nextt_0 d G1 P r0 hr0)
noncomputable def f_X2_nextt {d : Nat} : List zV → zH d → zP d → Bool := zfn 1 (b_X2_nextt )
theorem m_X2_nextt {d : Nat} : zMet (d := d) X_X2_next yX2_next 1 (f_X2_nextt ) := zmet_mk (X := X_X2_next) (by decide) rfl rfl (fun P => s_X2_nextt P)

noncomputable def hs_X2_next : zH 2 := (show zT 2 from (((18, 15, 0x4000000000800000000e800000000d800000000c0000000002800000000a800000000980000000088000000007800000000680000000058000000004800000000380000000028000000001), (22, 2, 0x1000000c90000000003)), ((0, 200, zun 40 200 4294967296), (0, 0, 0))), (3, (0, 0)))
noncomputable def hs_X2_next_o0 : zH 2 := (show zT 2 from (((18, 15, 0x4000000000800000000e800000000d800000000c0000000002800000000a800000000980000000088000000007800000000680000000058000000004800000000380000000028000000001), (22, 2, 0x1000000c90000000003)), ((0, 200, zun 40 200 4294967296), (0, 0, 0))), (3, (0, 0)))
noncomputable def hs_X2_next_o1 : zH 2 := (show zT 2 from (((18, 15, 0x4000000001800000000e800000000d800000000c0000000002800000000a800000000980000000088000000007800000000680000000058000000004800000000380000000028000000001), (22, 2, 0x1000000c90000000003)), ((0, 200, zun 40 200 4294967296), (0, 0, 0))), (3, (0, 0)))
set_option maxRecDepth 100000 in
theorem ev_X2_next : f_X2_nextt [zR 1] hs_X2_next (zrkL [(zI 4294967295, hs_X2_next_o0), (zI 4294967296, hs_X2_next_o1)]) = true := by decide +kernel
noncomputable def g_X2_next {d : Nat} : List zV → zH d → zP d → Bool := zsmyL [(0, 0), (1, 10), (2, 0)] [zR 1] hs_X2_next [(zI 4294967295, hs_X2_next_o0), (zI 4294967296, hs_X2_next_o1)]
theorem mg_X2_next {d : Nat} : zMet (d := d) X_X2_next yX2_next 1 g_X2_next := zMet_smL m_X2_nextt ev_X2_next

noncomputable def bX2_readNumbert_105 {d : Nat} (P : zP d) : zK d := (xaldV 0 (xgfR 18 0 (xpI 1 (xild 2 (xcV 17 3 0 0 (zstr f_X1_tellt) (xpI 4294967295 (xiret P)))))))
set_option maxRecDepth 100000 in
set_option maxHeartbeats 4000000 in
theorem sbX2_readNumbert_105 {d : Nat} [zGh] (P : zP d) : zSim X_X2_readNumber 2 P 105 (bX2_readNumbert_105 P) := by
  unfold bX2_readNumbert_105
  refine sm_aloadV_n (pc := 105) (n := 0) dX2_readNumber_105 rfl ?_
  refine gf_X2_12 (pc := 106) rfl dX2_readNumber_106 ?_
  refine sm_iconst (pc := 109) dX2_readNumber_109 zc_i_1 ?_
  refine sm_iload_n (pc := 110) (n := 2) dX2_readNumber_110 rfl ?_
  refine sm_cV (pc := 111) (ci := 1) (n := 3) (mc := 0) (ms := 0) rfl (zMet_str m_X1_tellt) (cr_X2_89 (X := X_X2_readNumber) (fr := 2) (frc := 1) (pc := 111) (mc := 0) (ms := 0) rfl (by decide) dX2_readNumber_111) ?_
  refine sm_iconst (pc := 114) dX2_readNumber_114 zc_i_m1 ?_
  exact sm_ireturn (pc := 115) dX2_readNumber_115 rfl
noncomputable def bX2_readNumbert_105_2 {d : Nat} (P : zP d) : zK d := (xaldV 0 (xgfR 18 0 (xpI 1 (xild 2 (xcV 17 3 0 0 (zstr f_X1_tellt) (xpI 4294967295 (xiret P)))))))
set_option maxRecDepth 100000 in
set_option maxHeartbeats 4000000 in
theorem sbX2_readNumbert_105_2 {d : Nat} [zGh] (P : zP d) : zSim X_X2_readNumber 2 P 105 (bX2_readNumbert_105_2 P) := by
  unfold bX2_readNumbert_105_2
  refine sm_aloadV_n (pc := 105) (n := 0) dX2_readNumber_105 rfl ?_
  refine gf_X2_12 (pc := 106) rfl dX2_readNumber_106 ?_
  refine sm_iconst (pc := 109) dX2_readNumber_109 zc_i_1 ?_
  refine sm_iload_n (pc := 110) (n := 2) dX2_readNumber_110 rfl ?_
  refine sm_cV (pc := 111) (ci := 1) (n := 3) (mc := 0) (ms := 0) rfl (zMet_str m_X1_tellt) (cr_X2_89 (X := X_X2_readNumber) (fr := 2) (frc := 1) (pc := 111) (mc := 0) (ms := 0) rfl (by decide) dX2_readNumber_111) ?_
  refine sm_iconst (pc := 114) dX2_readNumber_114 zc_i_m1 ?_
  exact sm_ireturn (pc := 115) dX2_readNumber_115 rfl
noncomputable def uX2_readNumbert_53 {d : Nat} (P : zP d) (r12 : zK d) : zK d := (xfcU 18 14 10 22 1 (xpI 4294967295 (xist 1 r12)) (xaldV 0 (xgfR 18 10 (xgfR 22 0 (xaldV 0 (xgfT 18 14 (xalQ 0 (xist 1 r12))))))))
set_option maxRecDepth 100000 in
set_option maxHeartbeats 4000000 in
theorem suX2_readNumbert_53 {d : Nat} [zGh] (P : zP d) (r12 : zK d) (hr12 : zSimJ 1 X_X2_readNumber 2 P 12 r12) : zSim X_X2_readNumber 2 P 53 (uX2_readNumbert_53 P r12) := by
  unfold uX2_readNumbert_53
  refine sm_fcU (pc := 53) (tgt := 82) (ci := 2) (ci2 := 6) (n1 := 14) (n2 := 10) (n3 := 1) (C := RX2) (T := TX2) (N := 15) (C2 := RX6) (T2 := TX6) (N2 := 2) rfl rfl rfl rfl rfl inz2 rfl (by decide) (by decide) rfl inz6 rfl (by decide) rfl wd_586 rfl wd_582 rfl wd_39 rfl dX2_readNumber_53 rfl dX2_readNumber_54 dX2_readNumber_57 rfl dX2_readNumber_58 dX2_readNumber_61 dX2_readNumber_64 (by decide) ?_ ?_
  · skip
    refine sm_iconst (pc := 82) dX2_readNumber_82 zc_i_m1 ?_
    refine sm_istore_n (pc := 83) (n := 1) dX2_readNumber_83 rfl ?_
    refine sm_goto (pc := 84) (tgt := 12) dX2_readNumber_84 (by decide) ?_
    exact hr12.use
  · skip
    refine sm_aloadV_n (pc := 67) (n := 0) dX2_readNumber_67 rfl ?_
    refine gf_X2_42 (pc := 68) rfl dX2_readNumber_68 ?_
    refine gf_X2_86 (pc := 71) rfl dX2_readNumber_71 ?_
    refine sm_aloadV_n (pc := 74) (n := 0) dX2_readNumber_74 rfl ?_
    refine gfT_X2_60 (pc := 75) rfl dX2_readNumber_75 ?_
    refine sm_ialoadQ (pc := 78) dX2_readNumber_78 ?_
    refine sm_goto (pc := 79) (tgt := 83) dX2_readNumber_79 (by decide) ?_
    refine sm_istore_n (pc := 83) (n := 1) dX2_readNumber_83 rfl ?_
    refine sm_goto (pc := 84) (tgt := 12) dX2_readNumber_84 (by decide) ?_
    exact hr12.use
noncomputable def lX2_readNumbert_12 {d : Nat} (P : zP d) (r12 : zK d) : zK d := (xfcU 18 14 10 22 1 (xaldV 0 (xgfT 18 14 (xild 2 (xjoin (bX2_readNumbert_105 P) (fun j105 => (xcmpS teqR rlEq rhEq rlNe rhNe j105 (xaldV 0 (xgfT 18 14 (xild 2 (xbin zsubR (xpI 4 (xcmpS tleR rlS rhLe rlGt rhS (xild 3 (xiret P)) j105)))))))))))) (xild 1 (xcS 1 0 0 (zstr f_X2_isDigitt) (xif0S teqR rlEq rhEq rlNe rhNe (xaldV 0 (xgfT 18 14 (xild 2 (xjoin (bX2_readNumbert_105_2 P) (fun j105 => (xcmpS teqR rlEq rhEq rlNe rhNe j105 (xaldV 0 (xgfT 18 14 (xild 2 (xbin zsubR (xpI 4 (xcmpS tleR rlS rhLe rlGt rhS (xild 3 (xiret P)) j105)))))))))))) (xild 3 (xpI 10 (xbin zmulR (xild 1 (xbin zaddR (xpI 48 (xbin zsubR (xist 3 (xaiT 18 14 (uX2_readNumbert_53 P r12))))))))))))))
set_option maxRecDepth 100000 in
set_option maxHeartbeats 4000000 in
theorem slX2_readNumbert_12 {d : Nat} [zGh] (P : zP d) (r12 : zK d) (hr12 : zSimU 1 X_X2_readNumber 2 P 12 r12) : zSim X_X2_readNumber 2 P 12 (lX2_readNumbert_12 P r12) := by
  unfold lX2_readNumbert_12
  refine sm_fcU (pc := 12) (tgt := 87) (ci := 2) (ci2 := 6) (n1 := 14) (n2 := 10) (n3 := 1) (C := RX2) (T := TX2) (N := 15) (C2 := RX6) (T2 := TX6) (N2 := 2) rfl rfl rfl rfl rfl inz2 rfl (by decide) (by decide) rfl inz6 rfl (by decide) rfl wd_586 rfl wd_582 rfl wd_39 rfl dX2_readNumber_12 rfl dX2_readNumber_13 dX2_readNumber_16 rfl dX2_readNumber_17 dX2_readNumber_20 dX2_readNumber_23 (by decide) ?_ ?_
  · skip
    refine sm_aloadV_n (pc := 87) (n := 0) dX2_readNumber_87 rfl ?_
    refine gfT_X2_60 (pc := 88) rfl dX2_readNumber_88 ?_
    refine sm_iload_n (pc := 91) (n := 2) dX2_readNumber_91 rfl ?_
    refine sm_joinJ (pc := 92) (pc' := 105) (j := 1) (fun G0 hG0 => @sbX2_readNumbert_105 d G0 P) (fun j105 hj105 => ?_)
    refine sm_icmpS_eq (pc := 92) (tgt := 105) dX2_readNumber_92 (by decide) ?_ ?_
    · skip
      exact hj105.use
    · skip
      refine sm_aloadV_n (pc := 95) (n := 0) dX2_readNumber_95 rfl ?_
      refine gfT_X2_60 (pc := 96) rfl dX2_readNumber_96 ?_
      refine sm_iload_n (pc := 99) (n := 2) dX2_readNumber_99 rfl ?_
      refine sm_isubR (pc := 100) dX2_readNumber_100 ?_
      refine sm_iconst (pc := 101) dX2_readNumber_101 zc_i_4 ?_
      refine sm_icmpS_le (pc := 102) (tgt := 116) dX2_readNumber_102 (by decide) ?_ ?_
      · skip
        refine sm_iload_n (pc := 116) (n := 3) dX2_readNumber_116 rfl ?_
        exact sm_ireturn (pc := 117) dX2_readNumber_117 rfl
      · skip
        exact hj105.use
  · skip
    refine sm_iload_n (pc := 26) (n := 1) dX2_readNumber_26 rfl ?_
    refine sm_cS (pc := 27) (n := 1) (mc := 0) (ms := 0) (zMet_str m_X2_isDigitt) (cr_X2_126 (X := X_X2_readNumber) (fr := 2) (frc := 1) (pc := 27) (mc := 0) (ms := 0) rfl (by decide) dX2_readNumber_27) ?_
    refine sm_ifS_eq (pc := 30) (tgt := 87) dX2_readNumber_30 (by decide) ?_ ?_
    · skip
      refine sm_aloadV_n (pc := 87) (n := 0) dX2_readNumber_87 rfl ?_
      refine gfT_X2_60 (pc := 88) rfl dX2_readNumber_88 ?_
      refine sm_iload_n (pc := 91) (n := 2) dX2_readNumber_91 rfl ?_
      refine sm_joinJ (pc := 92) (pc' := 105) (j := 1) (fun G0 hG0 => @sbX2_readNumbert_105_2 d G0 P) (fun j105 hj105 => ?_)
      refine sm_icmpS_eq (pc := 92) (tgt := 105) dX2_readNumber_92 (by decide) ?_ ?_
      · skip
        exact hj105.use
      · skip
        refine sm_aloadV_n (pc := 95) (n := 0) dX2_readNumber_95 rfl ?_
        refine gfT_X2_60 (pc := 96) rfl dX2_readNumber_96 ?_
        refine sm_iload_n (pc := 99) (n := 2) dX2_readNumber_99 rfl ?_
        refine sm_isubR (pc := 100) dX2_readNumber_100 ?_
        refine sm_iconst (pc := 101) dX2_readNumber_101 zc_i_4 ?_
        refine sm_icmpS_le (pc := 102) (tgt := 116) dX2_readNumber_102 (by decide) ?_ ?_
        · skip
          refine sm_iload_n (pc := 116) (n := 3) dX2_readNumber_116 rfl ?_
          exact sm_ireturn (pc := 117) dX2_readNumber_117 rfl
        · skip
          exact hj105.use
    · skip
      refine sm_iload_n (pc := 33) (n := 3) dX2_readNumber_33 rfl ?_
      refine sm_bipush (pc := 34) dX2_readNumber_34 zc_b_10 ?_
      refine sm_imulR (pc := 36) dX2_readNumber_36 ?_
      refine sm_iload_n (pc := 37) (n := 1) dX2_readNumber_37 rfl ?_
      refine sm_iaddR (pc := 38) dX2_readNumber_38 ?_
      refine sm_bipush (pc := 39) dX2_readNumber_39 zc_b_48 ?_
      refine sm_isubR (pc := 41) dX2_readNumber_41 ?_
      refine sm_istore_n (pc := 42) (n := 3) dX2_readNumber_42 rfl ?_
      exact sm_aiT (pc := 43) (ci := 2) (n := 14) (C := RX2) (T := TX2) (N := 15) rfl rfl rfl zc_i_1 inz2 rfl (by decide) wd_586 rfl dX2_readNumber_43 rfl dX2_readNumber_44 dX2_readNumber_45 dX2_readNumber_48 dX2_readNumber_49 (zput (C := RX2) (T := TX2) (N := 15) (ty0 := tyX2) (ty := .int) inz2 tyX2_ok nmX2 rfl (by decide) wd_586 rfl rfl dX2_readNumber_50) (fun G2 hg0 hgm => @suX2_readNumbert_53 d G2 P r12 (hr12.up hg0 hgm))
noncomputable def b_X2_readNumbert {d : Nat} (P : zP d) : zK d := (xaldV 0 (xcV 18 1 0 0 (zstr g_X2_next) (xist 1 (xaldV 0 (xgfT 18 14 (xist 2 (xpI 0 (xist 3 (xlpA 18 14 (wkF 0 [] 14 274877906944 (wkL 1 4294967296 (wkL 3 4294967296 wkE))) (fun r12 => (lX2_readNumbert_12 P r12)))))))))))
set_option maxRecDepth 100000 in
set_option maxHeartbeats 4000000 in
theorem s_X2_readNumbert {d : Nat} [zGh] (P : zP d) : zSim X_X2_readNumber 2 P 0 (b_X2_readNumbert P) := by
  unfold b_X2_readNumbert
  refine sm_aloadV_n (pc := 0) (n := 0) dX2_readNumber_0 rfl ?_
  refine sm_cV (pc := 1) (ci := 2) (n := 1) (mc := 0) (ms := 0) rfl (zMet_str mg_X2_next) (cr_X2_74 (X := X_X2_readNumber) (fr := 2) (frc := 1) (pc := 1) (mc := 0) (ms := 0) rfl (by decide) dX2_readNumber_1) ?_
  refine sm_istore_n (pc := 4) (n := 1) dX2_readNumber_4 rfl ?_
  refine sm_aloadV_n (pc := 5) (n := 0) dX2_readNumber_5 rfl ?_
  refine gfT_X2_60 (pc := 6) rfl dX2_readNumber_6 ?_
  refine sm_istore_n (pc := 9) (n := 2) dX2_readNumber_9 rfl ?_
  refine sm_iconst (pc := 10) dX2_readNumber_10 zc_i_0 ?_
  refine sm_istore_n (pc := 11) (n := 3) dX2_readNumber_11 rfl ?_
  exact sm_lpA (ci := 2) rfl rfl (by decide) (wkF_ok (wkL_ok (wkL_ok wkE_ok))) (fun G1 r12 hr12 => @slX2_readNumbert_12 d G1 P r12 hr12)
noncomputable def f_X2_readNumbert {d : Nat} : List zV → zH d → zP d → Bool := zfn 4 (b_X2_readNumbert )
theorem m_X2_readNumbert {d : Nat} : zMet (d := d) X_X2_readNumber yX2_readNumber 2 (f_X2_readNumbert ) := zmet_mk (X := X_X2_readNumber) (by decide) rfl rfl (fun P => s_X2_readNumbert P)

noncomputable def zk_99_zs2_59_y0_readC_0 : zT 1 := @Prod.mk (zT 0) (zT 0) (18, 15, 0x4000000000800000000e800000000d800000000c0000000002800000000a800000000980000000088000000007800000000680000000058000000004800000000380000000020000000004) (22, 2, 0x1000000c90000000003)
noncomputable def hs_X2_readNumber : zH 2 := (show zT 2 from (zk_99_zs2_59_y0_readC_0, ((0, 200, zun 40 200 4294967296), (17, 4, 0x10000001080000000c301000000000100000000))), (4, (0, 0)))
noncomputable def hs_X2_readNumber_o0 : zH 2 := (show zT 2 from (zk_99_zs2_59_y0_readC_0, ((0, 200, zun 40 200 4294967296), (17, 4, 0x80000000c301000000c90000000001))), (4, (0, 0)))
noncomputable def hs_X2_readNumber_o1 : zH 2 := (show zT 2 from (zk_99_zs2_59_y0_readC_0, ((0, 200, zun 40 200 4294967296), (17, 4, 0x10000001080000000c301000000000100000000))), (4, (0, 0)))
set_option maxRecDepth 100000 in
theorem ev_X2_readNumber : f_X2_readNumbert [zR 1] hs_X2_readNumber (zrkL [(zI 4294967295, hs_X2_readNumber_o0), (zI 4294967296, hs_X2_readNumber_o1)]) = true := by decide +kernel
noncomputable def g_X2_readNumber {d : Nat} : List zV → zH d → zP d → Bool := zsmyL [(0, 0), (1, 10), (2, 0), (1, 0)] [zR 1] hs_X2_readNumber [(zI 4294967295, hs_X2_readNumber_o0), (zI 4294967296, hs_X2_readNumber_o1)]
theorem mg_X2_readNumber {d : Nat} : zMet (d := d) X_X2_readNumber yX2_readNumber 2 g_X2_readNumber := zMet_smL m_X2_readNumbert ev_X2_readNumber

noncomputable def b_X2_refuset {d : Nat} (P : zP d) : zK d := (xaldV 0 (xgfR 18 0 (xpI 1 (xild 1 (xcV 17 3 0 0 (zstr f_X1_tellt) (xpI 0 (xzret P)))))))
set_option maxRecDepth 100000 in
set_option maxHeartbeats 4000000 in
theorem s_X2_refuset {d : Nat} [zGh] (P : zP d) : zSim X_X2_refuse 2 P 0 (b_X2_refuset P) := by
  unfold b_X2_refuset
  refine sm_aloadV_n (pc := 0) (n := 0) dX2_refuse_0 rfl ?_
  refine gf_X2_12 (pc := 1) rfl dX2_refuse_1 ?_
  refine sm_iconst (pc := 4) dX2_refuse_4 zc_i_1 ?_
  refine sm_iload_n (pc := 5) (n := 1) dX2_refuse_5 rfl ?_
  refine sm_cV (pc := 6) (ci := 1) (n := 3) (mc := 0) (ms := 0) rfl (zMet_str m_X1_tellt) (cr_X2_89 (X := X_X2_refuse) (fr := 2) (frc := 1) (pc := 6) (mc := 0) (ms := 0) rfl (by decide) dX2_refuse_6) ?_
  refine sm_iconst (pc := 9) dX2_refuse_9 zc_i_0 ?_
  exact sm_zreturn (pc := 10) dX2_refuse_10 rfl
noncomputable def f_X2_refuset {d : Nat} : List zV → zH d → zP d → Bool := zfn 2 (b_X2_refuset )
theorem m_X2_refuset {d : Nat} : zMet (d := d) X_X2_refuse yX2_refuse 2 (f_X2_refuset ) := zmet_mk (X := X_X2_refuse) (by decide) rfl rfl (fun P => s_X2_refuset P)

noncomputable def bX2_failt_68 {d : Nat} (P : zP d) (r12 : zK d) : zK d := (xaldV 0 (xgfR 18 0 (xaldV 0 (xgfR 18 4 (xild 5 (xalQ 0 (xcV 17 2 0 0 (zstr f_X1_addWithint) (xincR 5 4294967295 r12))))))))
set_option maxRecDepth 100000 in
set_option maxHeartbeats 4000000 in
theorem sbX2_failt_68 {d : Nat} [zGh] (P : zP d) (r12 : zK d) (hr12 : zSimJ 1 X_X2_fail 2 P 12 r12) : zSim X_X2_fail 2 P 68 (bX2_failt_68 P r12) := by
  unfold bX2_failt_68
  refine sm_aloadV_n (pc := 68) (n := 0) dX2_fail_68 rfl ?_
  refine gf_X2_12 (pc := 69) rfl dX2_fail_69 ?_
  refine sm_aloadV_n (pc := 72) (n := 0) dX2_fail_72 rfl ?_
  refine gf_X2_29 (pc := 73) rfl dX2_fail_73 ?_
  refine sm_iload (pc := 76) (n := 5) dX2_fail_76 ?_
  refine sm_ialoadQ (pc := 78) dX2_fail_78 ?_
  refine sm_cV (pc := 79) (ci := 1) (n := 2) (mc := 0) (ms := 0) rfl (zMet_str m_X1_addWithint) (cr_X2_93 (X := X_X2_fail) (fr := 2) (frc := 1) (pc := 79) (mc := 0) (ms := 0) rfl (by decide) dX2_fail_79) ?_
  refine sm_iincR (pc := 82) (n := 5) dX2_fail_82 zc_i_m1 ?_
  refine sm_goto (pc := 85) (tgt := 12) dX2_fail_85 (by decide) ?_
  exact hr12.use
noncomputable def bX2_failt_54 {d : Nat} (P : zP d) (j68 : zK d) : zK d := (xaldV 0 (xgfR 18 0 (xaldV 0 (xgfR 18 5 (xild 5 (xalQ 0 (xcV 17 2 0 0 (zstr f_X1_addWithint) j68)))))))
set_option maxRecDepth 100000 in
set_option maxHeartbeats 4000000 in
theorem sbX2_failt_54 {d : Nat} [zGh] (P : zP d) (j68 : zK d) (hj68 : zSimJ 1 X_X2_fail 2 P 68 j68) : zSim X_X2_fail 2 P 54 (bX2_failt_54 P j68) := by
  unfold bX2_failt_54
  refine sm_aloadV_n (pc := 54) (n := 0) dX2_fail_54 rfl ?_
  refine gf_X2_12 (pc := 55) rfl dX2_fail_55 ?_
  refine sm_aloadV_n (pc := 58) (n := 0) dX2_fail_58 rfl ?_
  refine gf_X2_33 (pc := 59) rfl dX2_fail_59 ?_
  refine sm_iload (pc := 62) (n := 5) dX2_fail_62 ?_
  refine sm_ialoadQ (pc := 64) dX2_fail_64 ?_
  refine sm_cV (pc := 65) (ci := 1) (n := 2) (mc := 0) (ms := 0) rfl (zMet_str m_X1_addWithint) (cr_X2_93 (X := X_X2_fail) (fr := 2) (frc := 1) (pc := 65) (mc := 0) (ms := 0) rfl (by decide) dX2_fail_65) ?_
  exact hj68.use
noncomputable def bX2_failt_42 {d : Nat} (P : zP d) (r12 : zK d) : zK d := (xild 5 (xild 3 (xjoin (bX2_failt_68 P r12) (fun j68 => (xjoin (bX2_failt_54 P j68) (fun j54 => (xcmpS tgeR rlGe rhS rlS rhLt (xild 4 (xpI 2 (xcmpS teqR rlEq rhEq rlNe rhNe j68 j54))) j54)))))))
set_option maxRecDepth 100000 in
set_option maxHeartbeats 4000000 in
theorem sbX2_failt_42 {d : Nat} [zGh] (P : zP d) (r12 : zK d) (hr12 : zSimJ 1 X_X2_fail 2 P 12 r12) : zSim X_X2_fail 2 P 42 (bX2_failt_42 P r12) := by
  unfold bX2_failt_42
  refine sm_iload (pc := 42) (n := 5) dX2_fail_42 ?_
  refine sm_iload_n (pc := 44) (n := 3) dX2_fail_44 rfl ?_
  refine sm_joinJ (pc := 45) (pc' := 68) (j := 1) (fun G0 hG0 => @sbX2_failt_68 d G0 P r12 (hr12.mv hG0 (by decide))) (fun j68 hj68 => ?_)
  refine sm_joinJ (pc := 45) (pc' := 54) (j := 1) (fun G0 hG0 => @sbX2_failt_54 d G0 P j68 (hj68.mv hG0 (by decide))) (fun j54 hj54 => ?_)
  refine sm_icmpS_lt (pc := 45) (tgt := 54) dX2_fail_45 (by decide) ?_ ?_
  · skip
    exact hj54.use
  · skip
    refine sm_iload (pc := 48) (n := 4) dX2_fail_48 ?_
    refine sm_iconst (pc := 50) dX2_fail_50 zc_i_2 ?_
    refine sm_icmpS_eq (pc := 51) (tgt := 68) dX2_fail_51 (by decide) ?_ ?_
    · skip
      exact hj68.use
    · skip
      exact hj54.use
noncomputable def bX2_failt_28 {d : Nat} (P : zP d) (j42 : zK d) : zK d := (xaldV 0 (xgfR 18 0 (xaldV 0 (xgfR 18 6 (xild 5 (xalQ 0 (xcV 17 2 0 0 (zstr f_X1_addWithint) j42)))))))
set_option maxRecDepth 100000 in
set_option maxHeartbeats 4000000 in
theorem sbX2_failt_28 {d : Nat} [zGh] (P : zP d) (j42 : zK d) (hj42 : zSimJ 1 X_X2_fail 2 P 42 j42) : zSim X_X2_fail 2 P 28 (bX2_failt_28 P j42) := by
  unfold bX2_failt_28
  refine sm_aloadV_n (pc := 28) (n := 0) dX2_fail_28 rfl ?_
  refine gf_X2_12 (pc := 29) rfl dX2_fail_29 ?_
  refine sm_aloadV_n (pc := 32) (n := 0) dX2_fail_32 rfl ?_
  refine gf_X2_36 (pc := 33) rfl dX2_fail_33 ?_
  refine sm_iload (pc := 36) (n := 5) dX2_fail_36 ?_
  refine sm_ialoadQ (pc := 38) dX2_fail_38 ?_
  refine sm_cV (pc := 39) (ci := 1) (n := 2) (mc := 0) (ms := 0) rfl (zMet_str m_X1_addWithint) (cr_X2_93 (X := X_X2_fail) (fr := 2) (frc := 1) (pc := 39) (mc := 0) (ms := 0) rfl (by decide) dX2_fail_39) ?_
  exact hj42.use
noncomputable def lX2_failt_12 {d : Nat} (P : zP d) (r12 : zK d) : zK d := (xild 5 (xif0S tgeR rlGe rhS rlS rhLt (xild 5 (xild 3 (xjoin (bX2_failt_42 P r12) (fun j42 => (xjoin (bX2_failt_28 P j42) (fun j28 => (xcmpS tgeR rlGe rhS rlS rhLt (xild 4 (xif0S teqR rlEq rhEq rlNe rhNe j28 j42)) j28))))))) (xpI 0 (xzret P))))
set_option maxRecDepth 100000 in
set_option maxHeartbeats 4000000 in
theorem slX2_failt_12 {d : Nat} [zGh] (P : zP d) (r12 : zK d) (hr12 : zSimJ 1 X_X2_fail 2 P 12 r12) : zSim X_X2_fail 2 P 12 (lX2_failt_12 P r12) := by
  unfold lX2_failt_12
  refine sm_iload (pc := 12) (n := 5) dX2_fail_12 ?_
  refine sm_ifS_lt (pc := 14) (tgt := 88) dX2_fail_14 (by decide) ?_ ?_
  · skip
    refine sm_iconst (pc := 88) dX2_fail_88 zc_i_0 ?_
    exact sm_zreturn (pc := 89) dX2_fail_89 rfl
  · skip
    refine sm_iload (pc := 17) (n := 5) dX2_fail_17 ?_
    refine sm_iload_n (pc := 19) (n := 3) dX2_fail_19 rfl ?_
    refine sm_joinJ (pc := 20) (pc' := 42) (j := 1) (fun G0 hG0 => @sbX2_failt_42 d G0 P r12 (hr12.mv hG0 (by decide))) (fun j42 hj42 => ?_)
    refine sm_joinJ (pc := 20) (pc' := 28) (j := 1) (fun G0 hG0 => @sbX2_failt_28 d G0 P j42 (hj42.mv hG0 (by decide))) (fun j28 hj28 => ?_)
    refine sm_icmpS_lt (pc := 20) (tgt := 28) dX2_fail_20 (by decide) ?_ ?_
    · skip
      exact hj28.use
    · skip
      refine sm_iload (pc := 23) (n := 4) dX2_fail_23 ?_
      refine sm_ifS_ne (pc := 25) (tgt := 42) dX2_fail_25 (by decide) ?_ ?_
      · skip
        exact hj42.use
      · skip
        exact hj28.use
noncomputable def b_X2_failt {d : Nat} (P : zP d) : zK d := (xaldV 0 (xgfR 18 0 (xild 1 (xild 2 (xcV 17 3 0 0 (zstr f_X1_tellt) (xild 3 (xist 5 (xloop (fun r12 => (lX2_failt_12 P r12)) 100000))))))))
set_option maxRecDepth 100000 in
set_option maxHeartbeats 4000000 in
theorem s_X2_failt {d : Nat} [zGh] (P : zP d) : zSim X_X2_fail 2 P 0 (b_X2_failt P) := by
  unfold b_X2_failt
  refine sm_aloadV_n (pc := 0) (n := 0) dX2_fail_0 rfl ?_
  refine gf_X2_12 (pc := 1) rfl dX2_fail_1 ?_
  refine sm_iload_n (pc := 4) (n := 1) dX2_fail_4 rfl ?_
  refine sm_iload_n (pc := 5) (n := 2) dX2_fail_5 rfl ?_
  refine sm_cV (pc := 6) (ci := 1) (n := 3) (mc := 0) (ms := 0) rfl (zMet_str m_X1_tellt) (cr_X2_89 (X := X_X2_fail) (fr := 2) (frc := 1) (pc := 6) (mc := 0) (ms := 0) rfl (by decide) dX2_fail_6) ?_
  refine sm_iload_n (pc := 9) (n := 3) dX2_fail_9 rfl ?_
  refine sm_istore (pc := 10) (n := 5) dX2_fail_10 ?_
  exact (sm_loopJ (j := 1) (fun G1 hG1 r12 hr12 => @slX2_failt_12 d G1 P r12 hr12) _).use
noncomputable def f_X2_failt {d : Nat} : List zV → zH d → zP d → Bool := zfn 6 (b_X2_failt )
theorem m_X2_failt {d : Nat} : zMet (d := d) X_X2_fail yX2_fail 2 (f_X2_failt ) := zmet_mk (X := X_X2_fail) (by decide) rfl rfl (fun P => s_X2_failt P)

noncomputable def b_X2_readConstantt {d : Nat} (P : zP d) : zK d := (xaldV 0 (xcV 18 1 0 0 (zstr (zenT 18 14 g_X2_readNumber)) (xist 2 (xild 2 (xpI 4294967295 (xcmpS teqR rlEq rhEq rlNe rhNe (xpI 0 (xzret P)) (xaldV 0 (xgfR 18 3 (xild 1 (xaaT (xild 2 (xi2lR (xcS 2 0 0 (zstr f_J7_fill_d0a16) (xpI 1 (xzret P)))))))))))))))
set_option maxRecDepth 100000 in
set_option maxHeartbeats 4000000 in
theorem s_X2_readConstantt {d : Nat} [zGh] (P : zP d) : zSim X_X2_readConstant 3 P 0 (b_X2_readConstantt P) := by
  unfold b_X2_readConstantt
  refine sm_aloadV_n (pc := 0) (n := 0) dX2_readConstant_0 rfl ?_
  refine sm_cV (pc := 1) (ci := 2) (n := 1) (mc := 0) (ms := 0) rfl (zMet_str (zMet_en (ci := 2) rfl rfl (by decide) mg_X2_readNumber)) (cr_X2_153 (X := X_X2_readConstant) (fr := 3) (frc := 2) (pc := 1) (mc := 0) (ms := 0) rfl (by decide) dX2_readConstant_1) ?_
  refine sm_istore_n (pc := 4) (n := 2) dX2_readConstant_4 rfl ?_
  refine sm_iload_n (pc := 5) (n := 2) dX2_readConstant_5 rfl ?_
  refine sm_iconst (pc := 6) dX2_readConstant_6 zc_i_m1 ?_
  refine sm_icmpS_ne (pc := 7) (tgt := 12) dX2_readConstant_7 (by decide) ?_ ?_
  · skip
    refine sm_aloadV_n (pc := 12) (n := 0) dX2_readConstant_12 rfl ?_
    refine gf_X2_26 (pc := 13) rfl dX2_readConstant_13 ?_
    refine sm_iload_n (pc := 16) (n := 1) dX2_readConstant_16 rfl ?_
    refine sm_aaloadT (pc := 17) dX2_readConstant_17 ?_
    refine sm_iload_n (pc := 18) (n := 2) dX2_readConstant_18 rfl ?_
    refine sm_i2lR (pc := 19) dX2_readConstant_19 ?_
    refine sm_cS (pc := 20) (n := 2) (mc := 0) (ms := 0) (zMet_str m_J7_fill_d0a16) (cr_X2_64 (X := X_X2_readConstant) (fr := 3) (frc := 1) (pc := 20) (mc := 0) (ms := 0) rfl (by decide) dX2_readConstant_20) ?_
    refine sm_iconst (pc := 23) dX2_readConstant_23 zc_i_1 ?_
    exact sm_zreturn (pc := 24) dX2_readConstant_24 rfl
  · skip
    refine sm_iconst (pc := 10) dX2_readConstant_10 zc_i_0 ?_
    exact sm_zreturn (pc := 11) dX2_readConstant_11 rfl
noncomputable def f_X2_readConstantt {d : Nat} : List zV → zH d → zP d → Bool := zfn 3 (b_X2_readConstantt )
theorem m_X2_readConstantt {d : Nat} : zMet (d := d) X_X2_readConstant yX2_readConstant 3 (f_X2_readConstantt ) := zmet_mk (X := X_X2_readConstant) (by decide) rfl rfl (fun P => s_X2_readConstantt P)

noncomputable def cX2_readSlott_51 {d : Nat} (P : zP d) : zK d := (xpI 0 (xaldV 0 (xgfR 18 12 (xgfI 23 1 (xcpy 2 72 (xpI 1 (xzret P)))))))
set_option maxRecDepth 100000 in
set_option maxHeartbeats 4000000 in
theorem scX2_readSlott_51 {d : Nat} [zGh] (P : zP d) : zSim X_X2_readSlot 3 P 51 (cX2_readSlott_51 P) := by
  unfold cX2_readSlott_51
  refine sm_iconst (pc := 51) dX2_readSlot_51 zc_i_0 ?_
  refine sm_aloadV_n (pc := 52) (n := 0) dX2_readSlot_52 rfl ?_
  refine gf_X2_49 (pc := 53) rfl dX2_readSlot_53 ?_
  refine gf_X2_100 (pc := 56) rfl dX2_readSlot_56 ?_
  refine sm_copyJ (pc := 59) wd_753 wd_80 wd_79 wd_7 (by decide) dX2_readSlot_59 ?_
  refine sm_iconst (pc := 62) dX2_readSlot_62 zc_i_1 ?_
  exact sm_zreturn (pc := 63) dX2_readSlot_63 rfl
noncomputable def b_X2_readSlott {d : Nat} (P : zP d) : zK d := (xaldV 0 (xcV 18 1 0 0 (zstr (zenT 18 14 g_X2_next)) (xpop (xaldV 0 (xgfI 18 14 (xist 2 (xaldV 0 (xcV 18 1 0 0 (zstr (zenT 18 14 g_X2_readNumber)) (xist 3 (xild 3 (xpI 4294967295 (xcmpS teqR rlEq rhEq rlNe rhNe (xpI 0 (xzret P)) (xcutLR 3 6 (xild 3 (xcS 1 0 0 (zstr f_X8_isSlott) (xif0S teqR rlEq rhEq rlNe rhNe (xaldV 0 (xpI 4 (xild 2 (xild 1 (xpI 0 (xcV 18 5 0 0 (zstr f_X2_failt) (xzret P))))))) (xaldV 0 (xgfR 18 11 (xild 3 (xaaT (xpI 0 (xaldV 0 (xgfR 18 3 (xild 1 (xaaT (cX2_readSlott_51 P))))))))))))))))))))))))))
set_option maxRecDepth 100000 in
set_option maxHeartbeats 4000000 in
theorem s_X2_readSlott {d : Nat} [zGh] (P : zP d) : zSim X_X2_readSlot 3 P 0 (b_X2_readSlott P) := by
  unfold b_X2_readSlott
  refine sm_aloadV_n (pc := 0) (n := 0) dX2_readSlot_0 rfl ?_
  refine sm_cV (pc := 1) (ci := 2) (n := 1) (mc := 0) (ms := 0) rfl (zMet_str (zMet_en (ci := 2) rfl rfl (by decide) mg_X2_next)) (cr_X2_74 (X := X_X2_readSlot) (fr := 3) (frc := 1) (pc := 1) (mc := 0) (ms := 0) rfl (by decide) dX2_readSlot_1) ?_
  refine sm_pop (pc := 4) dX2_readSlot_4 ?_
  refine sm_aloadV_n (pc := 5) (n := 0) dX2_readSlot_5 rfl ?_
  refine gf_X2_60 (pc := 6) rfl dX2_readSlot_6 ?_
  refine sm_istore_n (pc := 9) (n := 2) dX2_readSlot_9 rfl ?_
  refine sm_aloadV_n (pc := 10) (n := 0) dX2_readSlot_10 rfl ?_
  refine sm_cV (pc := 11) (ci := 2) (n := 1) (mc := 0) (ms := 0) rfl (zMet_str (zMet_en (ci := 2) rfl rfl (by decide) mg_X2_readNumber)) (cr_X2_153 (X := X_X2_readSlot) (fr := 3) (frc := 2) (pc := 11) (mc := 0) (ms := 0) rfl (by decide) dX2_readSlot_11) ?_
  refine sm_istore_n (pc := 14) (n := 3) dX2_readSlot_14 rfl ?_
  refine sm_iload_n (pc := 15) (n := 3) dX2_readSlot_15 rfl ?_
  refine sm_iconst (pc := 16) dX2_readSlot_16 zc_i_m1 ?_
  refine sm_icmpS_ne (pc := 17) (tgt := 22) dX2_readSlot_17 (by decide) ?_ ?_
  · skip
    refine sm_cutLR (i := 3) (m0 := 6) ?_
    refine sm_iload_n (pc := 22) (n := 3) dX2_readSlot_22 rfl ?_
    refine sm_cS (pc := 23) (n := 1) (mc := 0) (ms := 0) (zMet_str m_X8_isSlott) (cr_X2_156 (X := X_X2_readSlot) (fr := 3) (frc := 1) (pc := 23) (mc := 0) (ms := 0) rfl (by decide) dX2_readSlot_23) ?_
    refine sm_ifS_ne (pc := 26) (tgt := 38) dX2_readSlot_26 (by decide) ?_ ?_
    · skip
      refine sm_aloadV_n (pc := 38) (n := 0) dX2_readSlot_38 rfl ?_
      refine gf_X2_46 (pc := 39) rfl dX2_readSlot_39 ?_
      refine sm_iload_n (pc := 42) (n := 3) dX2_readSlot_42 rfl ?_
      refine sm_aaloadT (pc := 43) dX2_readSlot_43 ?_
      refine sm_iconst (pc := 44) dX2_readSlot_44 zc_i_0 ?_
      refine sm_aloadV_n (pc := 45) (n := 0) dX2_readSlot_45 rfl ?_
      refine gf_X2_26 (pc := 46) rfl dX2_readSlot_46 ?_
      refine sm_iload_n (pc := 49) (n := 1) dX2_readSlot_49 rfl ?_
      refine sm_aaloadT (pc := 50) dX2_readSlot_50 ?_
      exact scX2_readSlott_51 P
    · skip
      refine sm_aloadV_n (pc := 29) (n := 0) dX2_readSlot_29 rfl ?_
      refine sm_iconst (pc := 30) dX2_readSlot_30 zc_i_4 ?_
      refine sm_iload_n (pc := 31) (n := 2) dX2_readSlot_31 rfl ?_
      refine sm_iload_n (pc := 32) (n := 1) dX2_readSlot_32 rfl ?_
      refine sm_iconst (pc := 33) dX2_readSlot_33 zc_i_0 ?_
      refine sm_cV (pc := 34) (ci := 2) (n := 5) (mc := 0) (ms := 0) rfl (zMet_str m_X2_failt) (cr_X2_115 (X := X_X2_readSlot) (fr := 3) (frc := 2) (pc := 34) (mc := 0) (ms := 0) rfl (by decide) dX2_readSlot_34) ?_
      exact sm_zreturn (pc := 37) dX2_readSlot_37 rfl
  · skip
    refine sm_iconst (pc := 20) dX2_readSlot_20 zc_i_0 ?_
    exact sm_zreturn (pc := 21) dX2_readSlot_21 rfl
noncomputable def f_X2_readSlott {d : Nat} : List zV → zH d → zP d → Bool := zfn 4 (b_X2_readSlott )
theorem m_X2_readSlott {d : Nat} : zMet (d := d) X_X2_readSlot yX2_readSlot 3 (f_X2_readSlott ) := zmet_mk (X := X_X2_readSlot) (by decide) rfl rfl (fun P => s_X2_readSlott P)

noncomputable def lX2_copyt_2 {d : Nat} (P : zP d) (r2 : zK d) : zK d := (xild 3 (xaldV 0 (xgfR 18 12 (xgfI 23 1 (xcmpS tgeR rlGe rhS rlS rhLt (xvret P) (xaldV 2 (xild 3 (xaldV 1 (xild 3 (xalQ 0 (xi2lR (xlas (xincR 3 1 r2)))))))))))))
set_option maxRecDepth 100000 in
set_option maxHeartbeats 4000000 in
theorem slX2_copyt_2 {d : Nat} [zGh] (P : zP d) (r2 : zK d) (hr2 : zSimJ 1 X_X2_copy 1 P 2 r2) : zSim X_X2_copy 1 P 2 (lX2_copyt_2 P r2) := by
  unfold lX2_copyt_2
  refine sm_iload_n (pc := 2) (n := 3) dX2_copy_2 rfl ?_
  refine sm_aloadV_n (pc := 3) (n := 0) dX2_copy_3 rfl ?_
  refine gf_X2_49 (pc := 4) rfl dX2_copy_4 ?_
  refine gf_X2_100 (pc := 7) rfl dX2_copy_7 ?_
  refine sm_icmpS_ge (pc := 10) (tgt := 26) dX2_copy_10 (by decide) ?_ ?_
  · skip
    exact sm_vreturn (pc := 26) dX2_copy_26 rfl
  · skip
    refine sm_aloadV_n (pc := 13) (n := 2) dX2_copy_13 rfl ?_
    refine sm_iload_n (pc := 14) (n := 3) dX2_copy_14 rfl ?_
    refine sm_aloadV_n (pc := 15) (n := 1) dX2_copy_15 rfl ?_
    refine sm_iload_n (pc := 16) (n := 3) dX2_copy_16 rfl ?_
    refine sm_ialoadQ (pc := 17) dX2_copy_17 ?_
    refine sm_i2lR (pc := 18) dX2_copy_18 ?_
    refine sm_lastore (pc := 19) dX2_copy_19 ?_
    refine sm_iincR (pc := 20) (n := 3) dX2_copy_20 zc_i_1 ?_
    refine sm_goto (pc := 23) (tgt := 2) dX2_copy_23 (by decide) ?_
    exact hr2.use
noncomputable def b_X2_copyt {d : Nat} (P : zP d) : zK d := (xpI 0 (xist 3 (xloop (fun r2 => (lX2_copyt_2 P r2)) 100000)))
set_option maxRecDepth 100000 in
set_option maxHeartbeats 4000000 in
theorem s_X2_copyt {d : Nat} [zGh] (P : zP d) : zSim X_X2_copy 1 P 0 (b_X2_copyt P) := by
  unfold b_X2_copyt
  refine sm_iconst (pc := 0) dX2_copy_0 zc_i_0 ?_
  refine sm_istore_n (pc := 1) (n := 3) dX2_copy_1 rfl ?_
  exact (sm_loopJ (j := 1) (fun G1 hG1 r2 hr2 => @slX2_copyt_2 d G1 P r2 hr2) _).use
noncomputable def f_X2_copyt {d : Nat} : List zV → zH d → zP d → Bool := zfn 4 (b_X2_copyt )
theorem m_X2_copyt {d : Nat} : zMet (d := d) X_X2_copy yX2_copy 1 (f_X2_copyt ) := zmet_mk (X := X_X2_copy) (by decide) rfl rfl (fun P => s_X2_copyt P)

noncomputable def bX2_addt_60 {d : Nat} (P : zP d) : zK d := (xpI 0 (xzret P))
set_option maxRecDepth 100000 in
set_option maxHeartbeats 4000000 in
theorem sbX2_addt_60 {d : Nat} [zGh] (P : zP d) : zSim X_X2_add 1 P 60 (bX2_addt_60 P) := by
  unfold bX2_addt_60
  refine sm_iconst (pc := 60) dX2_add_60 zc_i_0 ?_
  exact sm_zreturn (pc := 61) dX2_add_61 rfl
noncomputable def bX2_addt_40 {d : Nat} (P : zP d) (r3 : zK d) : zK d := (xlst 5 (xlld 5 (xpL 1000000000000 (xlcmpR (xjoin (bX2_addt_60 P) (fun j60 => (xif0S tleR rlS rhLe rlGt rhS (xlld 5 (xpL 18446743073709551616 (xlcmpR (xif0S tgeR rlGe rhS rlS rhLt (xaldV 3 (xild 4 (xlld 5 (xlas (xincR 4 1 r3))))) j60)))) j60)))))))
set_option maxRecDepth 100000 in
set_option maxHeartbeats 4000000 in
theorem sbX2_addt_40 {d : Nat} [zGh] (P : zP d) (r3 : zK d) (hr3 : zSimJ 1 X_X2_add 1 P 3 r3) : zSim X_X2_add 1 P 40 (bX2_addt_40 P r3) := by
  unfold bX2_addt_40
  refine sm_lstore (pc := 40) (n := 5) dX2_add_40 ?_
  refine sm_lload (pc := 42) (n := 5) dX2_add_42 ?_
  refine sm_ldc2 (pc := 44) dX2_add_44 wd_765 zc_cl_1000000000000 ?_
  refine sm_lcmpR (pc := 47) dX2_add_47 ?_
  refine sm_joinJ (pc := 48) (pc' := 60) (j := 1) (fun G0 hG0 => @sbX2_addt_60 d G0 P) (fun j60 hj60 => ?_)
  refine sm_ifS_gt (pc := 48) (tgt := 60) dX2_add_48 (by decide) ?_ ?_
  · skip
    exact hj60.use
  · skip
    refine sm_lload (pc := 51) (n := 5) dX2_add_51 ?_
    refine sm_ldc2 (pc := 53) dX2_add_53 wd_770 zc_cl_m1000000000000 ?_
    refine sm_lcmpR (pc := 56) dX2_add_56 ?_
    refine sm_ifS_ge (pc := 57) (tgt := 62) dX2_add_57 (by decide) ?_ ?_
    · skip
      refine sm_aloadV_n (pc := 62) (n := 3) dX2_add_62 rfl ?_
      refine sm_iload (pc := 63) (n := 4) dX2_add_63 ?_
      refine sm_lload (pc := 65) (n := 5) dX2_add_65 ?_
      refine sm_lastore (pc := 67) dX2_add_67 ?_
      refine sm_iincR (pc := 68) (n := 4) dX2_add_68 zc_i_1 ?_
      refine sm_goto (pc := 71) (tgt := 3) dX2_add_71 (by decide) ?_
      exact hr3.use
    · skip
      exact hj60.use
noncomputable def lX2_addt_3 {d : Nat} (P : zP d) (r3 : zK d) : zK d := (xild 4 (xaldV 0 (xgfR 18 12 (xgfI 23 1 (xcmpS tgeR rlGe rhS rlS rhLt (xpI 1 (xzret P)) (xild 2 (xjn wkE (zsp [zL 18446744073709551616] 1) (bX2_addt_40 P r3) (fun j40 => (xif0S teqR rlEq rhEq rlNe rhNe (xaldV 3 (xild 4 (xlal (xaldV 1 (xild 4 (xlal (xbinj zaddj j40))))))) (xaldV 3 (xild 4 (xlal (xaldV 1 (xild 4 (xlal (xbinj zsubj j40))))))))))))))))
set_option maxRecDepth 100000 in
set_option maxHeartbeats 4000000 in
theorem slX2_addt_3 {d : Nat} [zGh] (P : zP d) (r3 : zK d) (hr3 : zSimJ 1 X_X2_add 1 P 3 r3) : zSim X_X2_add 1 P 3 (lX2_addt_3 P r3) := by
  unfold lX2_addt_3
  refine sm_iload (pc := 3) (n := 4) dX2_add_3 ?_
  refine sm_aloadV_n (pc := 5) (n := 0) dX2_add_5 rfl ?_
  refine gf_X2_49 (pc := 6) rfl dX2_add_6 ?_
  refine gf_X2_100 (pc := 9) rfl dX2_add_9 ?_
  refine sm_icmpS_ge (pc := 12) (tgt := 74) dX2_add_12 (by decide) ?_ ?_
  · skip
    refine sm_iconst (pc := 74) dX2_add_74 zc_i_1 ?_
    exact sm_zreturn (pc := 75) dX2_add_75 rfl
  · skip
    refine sm_iload_n (pc := 15) (n := 2) dX2_add_15 rfl ?_
    refine sm_jn (pc := 16) (pc' := 40) (j := 1) wkE_ok (zsp_ok _ _) (fun G0 hG0 => @sbX2_addt_40 d G0 P r3 (hr3.mv hG0 (by decide))) (fun j40 hj40 => ?_)
    refine sm_ifS_eq (pc := 16) (tgt := 31) dX2_add_16 (by decide) ?_ ?_
    · skip
      refine sm_aloadV_n (pc := 31) (n := 3) dX2_add_31 rfl ?_
      refine sm_iload (pc := 32) (n := 4) dX2_add_32 ?_
      refine sm_laload (pc := 34) dX2_add_34 ?_
      refine sm_aloadV_n (pc := 35) (n := 1) dX2_add_35 rfl ?_
      refine sm_iload (pc := 36) (n := 4) dX2_add_36 ?_
      refine sm_laload (pc := 38) dX2_add_38 ?_
      refine sm_ladd (pc := 39) dX2_add_39 ?_
      exact hj40.use
    · skip
      refine sm_aloadV_n (pc := 19) (n := 3) dX2_add_19 rfl ?_
      refine sm_iload (pc := 20) (n := 4) dX2_add_20 ?_
      refine sm_laload (pc := 22) dX2_add_22 ?_
      refine sm_aloadV_n (pc := 23) (n := 1) dX2_add_23 rfl ?_
      refine sm_iload (pc := 24) (n := 4) dX2_add_24 ?_
      refine sm_laload (pc := 26) dX2_add_26 ?_
      refine sm_lsub (pc := 27) dX2_add_27 ?_
      refine sm_goto (pc := 28) (tgt := 40) dX2_add_28 (by decide) ?_
      exact hj40.use
noncomputable def b_X2_addt {d : Nat} (P : zP d) : zK d := (xpI 0 (xist 4 (xloop (fun r3 => (lX2_addt_3 P r3)) 100000)))
set_option maxRecDepth 100000 in
set_option maxHeartbeats 4000000 in
theorem s_X2_addt {d : Nat} [zGh] (P : zP d) : zSim X_X2_add 1 P 0 (b_X2_addt P) := by
  unfold b_X2_addt
  refine sm_iconst (pc := 0) dX2_add_0 zc_i_0 ?_
  refine sm_istore (pc := 1) (n := 4) dX2_add_1 ?_
  exact (sm_loopJ (j := 1) (fun G1 hG1 r3 hr3 => @slX2_addt_3 d G1 P r3 hr3) _).use
noncomputable def f_X2_addt {d : Nat} : List zV → zH d → zP d → Bool := zfn 7 (b_X2_addt )
theorem m_X2_addt {d : Nat} : zMet (d := d) X_X2_add yX2_add 1 (f_X2_addt ) := zmet_mk (X := X_X2_add) (by decide) rfl rfl (fun P => s_X2_addt P)

noncomputable def lX2_multiplyt_2 {d : Nat} (P : zP d) (r2 : zK d) : zK d := (xild 3 (xaldV 0 (xgfR 18 12 (xgfI 23 1 (xcmpS tgeR rlGe rhS rlS rhLt (xpI 1 (xzret P)) (xmck 1 2 3 (xaldV 2 (xild 3 (xdup2V (xlal (xaldV 1 (xild 3 (xlal (xbinj zmulj (xlas (xincR 3 1 r2)))))))))) (xpI 0 (xzret P))))))))
set_option maxRecDepth 100000 in
set_option maxHeartbeats 4000000 in
theorem slX2_multiplyt_2 {d : Nat} [zGh] (P : zP d) (r2 : zK d) (hr2 : zSimJ 1 X_X2_multiply 1 P 2 r2) : zSim X_X2_multiply 1 P 2 (lX2_multiplyt_2 P r2) := by
  unfold lX2_multiplyt_2
  refine sm_iload_n (pc := 2) (n := 3) dX2_multiply_2 rfl ?_
  refine sm_aloadV_n (pc := 3) (n := 0) dX2_multiply_3 rfl ?_
  refine gf_X2_49 (pc := 4) rfl dX2_multiply_4 ?_
  refine gf_X2_100 (pc := 7) rfl dX2_multiply_7 ?_
  refine sm_icmpS_ge (pc := 10) (tgt := 58) dX2_multiply_10 (by decide) ?_ ?_
  · skip
    refine sm_iconst (pc := 58) dX2_multiply_58 zc_i_1 ?_
    exact sm_zreturn (pc := 59) dX2_multiply_59 rfl
  · skip
    refine sm_mck (pc := 13) (n1 := 1) (n2 := 2) (n3 := 3) (tgt := 43) dX2_multiply_13 rfl dX2_multiply_14 rfl dX2_multiply_15 dX2_multiply_16 rfl dX2_multiply_17 dX2_multiply_18 (by decide) dX2_multiply_21 rfl dX2_multiply_22 rfl dX2_multiply_23 dX2_multiply_24 dX2_multiply_27 wd_765 dX2_multiply_30 rfl dX2_multiply_31 rfl dX2_multiply_32 dX2_multiply_33 dX2_multiply_36 dX2_multiply_37 dX2_multiply_38 (by decide) wd_762 wd_763 wd_6 wd_764 (by decide) ?_ ?_
    · skip
      refine sm_aloadV_n (pc := 43) (n := 2) dX2_multiply_43 rfl ?_
      refine sm_iload_n (pc := 44) (n := 3) dX2_multiply_44 rfl ?_
      refine sm_dup2V (pc := 45) dX2_multiply_45 ?_
      refine sm_laload (pc := 46) dX2_multiply_46 ?_
      refine sm_aloadV_n (pc := 47) (n := 1) dX2_multiply_47 rfl ?_
      refine sm_iload_n (pc := 48) (n := 3) dX2_multiply_48 rfl ?_
      refine sm_laload (pc := 49) dX2_multiply_49 ?_
      refine sm_lmul (pc := 50) dX2_multiply_50 ?_
      refine sm_lastore (pc := 51) dX2_multiply_51 ?_
      refine sm_iincR (pc := 52) (n := 3) dX2_multiply_52 zc_i_1 ?_
      refine sm_goto (pc := 55) (tgt := 2) dX2_multiply_55 (by decide) ?_
      exact hr2.use
    · skip
      refine sm_iconst (pc := 41) dX2_multiply_41 zc_i_0 ?_
      exact sm_zreturn (pc := 42) dX2_multiply_42 rfl
noncomputable def b_X2_multiplyt {d : Nat} (P : zP d) : zK d := (xpI 0 (xist 3 (xloop (fun r2 => (lX2_multiplyt_2 P r2)) 100000)))
set_option maxRecDepth 100000 in
set_option maxHeartbeats 4000000 in
theorem s_X2_multiplyt {d : Nat} [zGh] (P : zP d) : zSim X_X2_multiply 1 P 0 (b_X2_multiplyt P) := by
  unfold b_X2_multiplyt
  refine sm_iconst (pc := 0) dX2_multiply_0 zc_i_0 ?_
  refine sm_istore_n (pc := 1) (n := 3) dX2_multiply_1 rfl ?_
  exact (sm_loopJ (j := 1) (fun G1 hG1 r2 hr2 => @slX2_multiplyt_2 d G1 P r2 hr2) _).use
noncomputable def f_X2_multiplyt {d : Nat} : List zV → zH d → zP d → Bool := zfn 4 (b_X2_multiplyt )
theorem m_X2_multiplyt {d : Nat} : zMet (d := d) X_X2_multiply yX2_multiply 1 (f_X2_multiplyt ) := zmet_mk (X := X_X2_multiply) (by decide) rfl rfl (fun P => s_X2_multiplyt P)

noncomputable def bX2_rowFort_66 {d : Nat} (P : zP d) : zK d := (xaldV 0 (xgfR 18 12 (xgfR 23 12 (xild 2 (xaaT (xaret P))))))
set_option maxRecDepth 100000 in
set_option maxHeartbeats 4000000 in
theorem sbX2_rowFort_66 {d : Nat} [zGh] (P : zP d) : zSim X_X2_rowFor 1 P 66 (bX2_rowFort_66 P) := by
  unfold bX2_rowFort_66
  refine sm_aloadV_n (pc := 66) (n := 0) dX2_rowFor_66 rfl ?_
  refine gf_X2_49 (pc := 67) rfl dX2_rowFor_67 ?_
  refine gf_X2_188 (pc := 70) rfl dX2_rowFor_70 ?_
  refine sm_iload_n (pc := 73) (n := 2) dX2_rowFor_73 rfl ?_
  refine sm_aaloadT (pc := 74) dX2_rowFor_74 ?_
  exact sm_areturn (pc := 75) dX2_rowFor_75 rfl (by first | exact Or.inl ⟨_, rfl⟩ | exact Or.inr ⟨_, rfl⟩)
noncomputable def bX2_rowFort_36 {d : Nat} (P : zP d) : zK d := (xaldV 0 (xgfR 18 13 (xgfR 21 6 (xild 2 (xaaT (xaret P))))))
set_option maxRecDepth 100000 in
set_option maxHeartbeats 4000000 in
theorem sbX2_rowFort_36 {d : Nat} [zGh] (P : zP d) : zSim X_X2_rowFor 1 P 36 (bX2_rowFort_36 P) := by
  unfold bX2_rowFort_36
  refine sm_aloadV_n (pc := 36) (n := 0) dX2_rowFor_36 rfl ?_
  refine gf_X2_53 (pc := 37) rfl dX2_rowFor_37 ?_
  refine gf_X2_178 (pc := 40) rfl dX2_rowFor_40 ?_
  refine sm_iload_n (pc := 43) (n := 2) dX2_rowFor_43 rfl ?_
  refine sm_aaloadT (pc := 44) dX2_rowFor_44 ?_
  exact sm_areturn (pc := 45) dX2_rowFor_45 rfl (by first | exact Or.inl ⟨_, rfl⟩ | exact Or.inr ⟨_, rfl⟩)
noncomputable def bX2_rowFort_56 {d : Nat} (P : zP d) : zK d := (xaldV 0 (xgfR 18 12 (xgfR 23 11 (xild 2 (xaaT (xaret P))))))
set_option maxRecDepth 100000 in
set_option maxHeartbeats 4000000 in
theorem sbX2_rowFort_56 {d : Nat} [zGh] (P : zP d) : zSim X_X2_rowFor 1 P 56 (bX2_rowFort_56 P) := by
  unfold bX2_rowFort_56
  refine sm_aloadV_n (pc := 56) (n := 0) dX2_rowFor_56 rfl ?_
  refine gf_X2_49 (pc := 57) rfl dX2_rowFor_57 ?_
  refine gf_X2_185 (pc := 60) rfl dX2_rowFor_60 ?_
  refine sm_iload_n (pc := 63) (n := 2) dX2_rowFor_63 rfl ?_
  refine sm_aaloadT (pc := 64) dX2_rowFor_64 ?_
  exact sm_areturn (pc := 65) dX2_rowFor_65 rfl (by first | exact Or.inl ⟨_, rfl⟩ | exact Or.inr ⟨_, rfl⟩)
noncomputable def bX2_rowFort_46 {d : Nat} (P : zP d) : zK d := (xaldV 0 (xgfR 18 13 (xgfR 21 9 (xild 2 (xaaT (xaret P))))))
set_option maxRecDepth 100000 in
set_option maxHeartbeats 4000000 in
theorem sbX2_rowFort_46 {d : Nat} [zGh] (P : zP d) : zSim X_X2_rowFor 1 P 46 (bX2_rowFort_46 P) := by
  unfold bX2_rowFort_46
  refine sm_aloadV_n (pc := 46) (n := 0) dX2_rowFor_46 rfl ?_
  refine gf_X2_53 (pc := 47) rfl dX2_rowFor_47 ?_
  refine gf_X2_182 (pc := 50) rfl dX2_rowFor_50 ?_
  refine sm_iload_n (pc := 53) (n := 2) dX2_rowFor_53 rfl ?_
  refine sm_aaloadT (pc := 54) dX2_rowFor_54 ?_
  exact sm_areturn (pc := 55) dX2_rowFor_55 rfl (by first | exact Or.inl ⟨_, rfl⟩ | exact Or.inr ⟨_, rfl⟩)
noncomputable def b_X2_rowFort {d : Nat} (P : zP d) : zK d := (xild 1 (xlswV [(68, (bX2_rowFort_36 P)), (77, (bX2_rowFort_56 P)), (80, (bX2_rowFort_46 P))] (bX2_rowFort_66 P)))
set_option maxRecDepth 100000 in
set_option maxHeartbeats 4000000 in
theorem s_X2_rowFort {d : Nat} [zGh] (P : zP d) : zSim X_X2_rowFor 1 P 0 (b_X2_rowFort P) := by
  unfold b_X2_rowFort
  refine sm_iload_n (pc := 0) (n := 1) dX2_rowFor_0 rfl ?_
  refine sm_lswV (pc := 1) (tdf := 66) [(68, 36), (77, 56), (80, 46)] dX2_rowFor_1 (by decide +kernel) (by decide +kernel) rfl (by decide) (sbX2_rowFort_66 P) (fun i n t k ht hk => ?_)
  match i, ht, hk with
  | 0, ht, hk => cases ht; cases hk; exact sbX2_rowFort_36 P
  | 1, ht, hk => cases ht; cases hk; exact sbX2_rowFort_56 P
  | 2, ht, hk => cases ht; cases hk; exact sbX2_rowFort_46 P
  | i + 3, ht, hk => cases ht
noncomputable def f_X2_rowFort {d : Nat} : List zV → zH d → zP d → Bool := zfn 3 (b_X2_rowFort )
theorem m_X2_rowFort {d : Nat} : zMet (d := d) X_X2_rowFor yX2_rowFor 1 (f_X2_rowFort ) := zmet_mk (X := X_X2_rowFor) (by decide) rfl rfl (fun P => s_X2_rowFort P)

noncomputable def bX7_numberOft_72 {d : Nat} (P : zP d) (r2 : zK d) : zK d := (xincR 3 1 r2)
set_option maxRecDepth 100000 in
set_option maxHeartbeats 4000000 in
theorem sbX7_numberOft_72 {d : Nat} [zGh] (P : zP d) (r2 : zK d) (hr2 : zSimJ 1 X_X7_numberOf 1 P 2 r2) : zSim X_X7_numberOf 1 P 72 (bX7_numberOft_72 P r2) := by
  unfold bX7_numberOft_72
  refine sm_iincR (pc := 72) (n := 3) dX7_numberOf_72 zc_i_1 ?_
  refine sm_goto (pc := 75) (tgt := 2) dX7_numberOf_75 (by decide) ?_
  exact hr2.use
noncomputable def bX7_numberOft_56 {d : Nat} (P : zP d) (j72 : zK d) : zK d := (xild 5 (xaldV 4 (xlen (xcmpS teqR rlEq rhEq rlNe rhNe (xild 5 (xild 2 (xcmpS teqR rlEq rhEq rlNe rhNe (xild 3 (xiret P)) j72))) j72))))
set_option maxRecDepth 100000 in
set_option maxHeartbeats 4000000 in
theorem sbX7_numberOft_56 {d : Nat} [zGh] (P : zP d) (j72 : zK d) (hj72 : zSimJ 1 X_X7_numberOf 1 P 72 j72) : zSim X_X7_numberOf 1 P 56 (bX7_numberOft_56 P j72) := by
  unfold bX7_numberOft_56
  refine sm_iload (pc := 56) (n := 5) dX7_numberOf_56 ?_
  refine sm_aloadV (pc := 58) (n := 4) dX7_numberOf_58 ?_
  refine sm_arraylength (pc := 60) dX7_numberOf_60 ?_
  refine sm_icmpS_ne (pc := 61) (tgt := 72) dX7_numberOf_61 (by decide) ?_ ?_
  · skip
    exact hj72.use
  · skip
    refine sm_iload (pc := 64) (n := 5) dX7_numberOf_64 ?_
    refine sm_iload_n (pc := 66) (n := 2) dX7_numberOf_66 rfl ?_
    refine sm_icmpS_ne (pc := 67) (tgt := 72) dX7_numberOf_67 (by decide) ?_ ?_
    · skip
      exact hj72.use
    · skip
      refine sm_iload_n (pc := 70) (n := 3) dX7_numberOf_70 rfl ?_
      exact sm_ireturn (pc := 71) dX7_numberOf_71 rfl
noncomputable def lX7_numberOft_24 {d : Nat} (P : zP d) (j72 : zK d) (r24 : zK d) : zK d := (xild 5 (xaldV 4 (xlen (xjoin (bX7_numberOft_56 P j72) (fun j56 => (xcmpS tgeR rlGe rhS rlS rhLt j56 (xild 5 (xild 2 (xcmpS tgeR rlGe rhS rlS rhLt j56 (xaldV 4 (xild 5 (xalQ 0 (xaldV 1 (xild 5 (xalQ 0 (xcmpS teqR rlEq rhEq rlNe rhNe (xincR 5 1 r24) j56))))))))))))))))
set_option maxRecDepth 100000 in
set_option maxHeartbeats 4000000 in
theorem slX7_numberOft_24 {d : Nat} [zGh] (P : zP d) (j72 : zK d) (r24 : zK d) (hj72 : zSimJ 1 X_X7_numberOf 1 P 72 j72) (hr24 : zSimJ 1 X_X7_numberOf 1 P 24 r24) : zSim X_X7_numberOf 1 P 24 (lX7_numberOft_24 P j72 r24) := by
  unfold lX7_numberOft_24
  refine sm_iload (pc := 24) (n := 5) dX7_numberOf_24 ?_
  refine sm_aloadV (pc := 26) (n := 4) dX7_numberOf_26 ?_
  refine sm_arraylength (pc := 28) dX7_numberOf_28 ?_
  refine sm_joinJ (pc := 29) (pc' := 56) (j := 1) (fun G0 hG0 => @sbX7_numberOft_56 d G0 P j72 (hj72.mv hG0 (by decide))) (fun j56 hj56 => ?_)
  refine sm_icmpS_ge (pc := 29) (tgt := 56) dX7_numberOf_29 (by decide) ?_ ?_
  · skip
    exact hj56.use
  · skip
    refine sm_iload (pc := 32) (n := 5) dX7_numberOf_32 ?_
    refine sm_iload_n (pc := 34) (n := 2) dX7_numberOf_34 rfl ?_
    refine sm_icmpS_ge (pc := 35) (tgt := 56) dX7_numberOf_35 (by decide) ?_ ?_
    · skip
      exact hj56.use
    · skip
      refine sm_aloadV (pc := 38) (n := 4) dX7_numberOf_38 ?_
      refine sm_iload (pc := 40) (n := 5) dX7_numberOf_40 ?_
      refine sm_ialoadQ (pc := 42) dX7_numberOf_42 ?_
      refine sm_aloadV_n (pc := 43) (n := 1) dX7_numberOf_43 rfl ?_
      refine sm_iload (pc := 44) (n := 5) dX7_numberOf_44 ?_
      refine sm_ialoadQ (pc := 46) dX7_numberOf_46 ?_
      refine sm_icmpS_ne (pc := 47) (tgt := 56) dX7_numberOf_47 (by decide) ?_ ?_
      · skip
        exact hj56.use
      · skip
        refine sm_iincR (pc := 50) (n := 5) dX7_numberOf_50 zc_i_1 ?_
        refine sm_goto (pc := 53) (tgt := 24) dX7_numberOf_53 (by decide) ?_
        exact hr24.use
noncomputable def lX7_numberOft_2 {d : Nat} (P : zP d) (r2 : zK d) : zK d := (xild 3 (xaldV 0 (xgfI 23 1 (xcmpS tgeR rlGe rhS rlS rhLt (xpI 4294967295 (xiret P)) (xjn (wkU 4 (wkU 5 wkE)) (zsp [] 0) (bX7_numberOft_72 P r2) (fun j72 => (xaldV 0 (xgfR 23 3 (xild 3 (xaaT (xgfR 20 2 (xastV 4 (xpI 0 (xist 5 (xloop (fun r24 => (lX7_numberOft_24 P j72 r24)) 100000)))))))))))))))
set_option maxRecDepth 100000 in
set_option maxHeartbeats 4000000 in
theorem slX7_numberOft_2 {d : Nat} [zGh] (P : zP d) (r2 : zK d) (hr2 : zSimJ 1 X_X7_numberOf 1 P 2 r2) : zSim X_X7_numberOf 1 P 2 (lX7_numberOft_2 P r2) := by
  unfold lX7_numberOft_2
  refine sm_iload_n (pc := 2) (n := 3) dX7_numberOf_2 rfl ?_
  refine sm_aloadV_n (pc := 3) (n := 0) dX7_numberOf_3 rfl ?_
  refine gf_X7_19 (pc := 4) rfl dX7_numberOf_4 ?_
  refine sm_icmpS_ge (pc := 7) (tgt := 78) dX7_numberOf_7 (by decide) ?_ ?_
  · skip
    refine sm_iconst (pc := 78) dX7_numberOf_78 zc_i_m1 ?_
    exact sm_ireturn (pc := 79) dX7_numberOf_79 rfl
  · skip
    refine sm_jn (pc := 10) (pc' := 72) (j := 1) (wkU_ok (wkU_ok wkE_ok)) (zsp_ok _ _) (fun G0 hG0 => @sbX7_numberOft_72 d G0 P r2 (hr2.mv hG0 (by decide))) (fun j72 hj72 => ?_)
    refine sm_aloadV_n (pc := 10) (n := 0) dX7_numberOf_10 rfl ?_
    refine gf_X7_24 (pc := 11) rfl dX7_numberOf_11 ?_
    refine sm_iload_n (pc := 14) (n := 3) dX7_numberOf_14 rfl ?_
    refine sm_aaloadT (pc := 15) dX7_numberOf_15 ?_
    refine gf_X7_98 (pc := 16) rfl dX7_numberOf_16 ?_
    refine sm_astoreV (pc := 19) (n := 4) dX7_numberOf_19 ?_
    refine sm_iconst (pc := 21) dX7_numberOf_21 zc_i_0 ?_
    refine sm_istore (pc := 22) (n := 5) dX7_numberOf_22 ?_
    exact (sm_loopJ (j := 1) (fun G1 hG1 r24 hr24 => @slX7_numberOft_24 d G1 P j72 r24 (hj72.mv hG1 (by decide)) hr24) _).use
noncomputable def b_X7_numberOft {d : Nat} (P : zP d) : zK d := (xpI 0 (xist 3 (xloop (fun r2 => (lX7_numberOft_2 P r2)) 100000)))
set_option maxRecDepth 100000 in
set_option maxHeartbeats 4000000 in
theorem s_X7_numberOft {d : Nat} [zGh] (P : zP d) : zSim X_X7_numberOf 1 P 0 (b_X7_numberOft P) := by
  unfold b_X7_numberOft
  refine sm_iconst (pc := 0) dX7_numberOf_0 zc_i_0 ?_
  refine sm_istore_n (pc := 1) (n := 3) dX7_numberOf_1 rfl ?_
  exact (sm_loopJ (j := 1) (fun G1 hG1 r2 hr2 => @slX7_numberOft_2 d G1 P r2 hr2) _).use
noncomputable def f_X7_numberOft {d : Nat} : List zV → zH d → zP d → Bool := zfn 6 (b_X7_numberOft )
theorem m_X7_numberOft {d : Nat} : zMet (d := d) X_X7_numberOf yX7_numberOf 1 (f_X7_numberOft ) := zmet_mk (X := X_X7_numberOf) (by decide) rfl rfl (fun P => s_X7_numberOft P)

noncomputable def bX2_readListt_84 {d : Nat} (P : zP d) (r33 : zK d) : zK d := (xaldV 0 (xdup (xgfI 18 8 (xpI 1 (xbin zaddR (xpfI 18 8 (xaldV 0 (xcV 18 1 0 0 (zstr (zenT 18 14 g_X2_next)) (xist 3 (xild 3 (xpI 93 (xcmpS teqR rlEq rhEq rlNe rhNe (xaldV 0 (xdup (xgfI 18 14 (xpI 1 (xbin zaddR (xpfI 18 14 (xpI 1 (xzret P)))))))) (xild 3 (xpI 44 (xcmpS teqR rlEq rhEq rlNe rhNe (xincR 1 1 r33) (xaldV 0 (xaldV 0 (xgfI 18 14 (xcV 18 2 0 0 (zstr f_X2_refuset) (xzret P))))))))))))))))))))
set_option maxRecDepth 100000 in
set_option maxHeartbeats 4000000 in
theorem sbX2_readListt_84 {d : Nat} [zGh] (P : zP d) (r33 : zK d) (hr33 : zSimJ 1 X_X2_readList 3 P 33 r33) : zSim X_X2_readList 3 P 84 (bX2_readListt_84 P r33) := by
  unfold bX2_readListt_84
  refine sm_aloadV_n (pc := 84) (n := 0) dX2_readList_84 rfl ?_
  refine sm_dup (pc := 85) dX2_readList_85 ?_
  refine gf_X2_162 (pc := 86) rfl dX2_readList_86 ?_
  refine sm_iconst (pc := 89) dX2_readList_89 zc_i_1 ?_
  refine sm_iaddR (pc := 90) dX2_readList_90 ?_
  refine pf_X2_162 (pc := 91) rfl dX2_readList_91 ?_
  refine sm_aloadV_n (pc := 94) (n := 0) dX2_readList_94 rfl ?_
  refine sm_cV (pc := 95) (ci := 2) (n := 1) (mc := 0) (ms := 0) rfl (zMet_str (zMet_en (ci := 2) rfl rfl (by decide) mg_X2_next)) (cr_X2_74 (X := X_X2_readList) (fr := 3) (frc := 1) (pc := 95) (mc := 0) (ms := 0) rfl (by decide) dX2_readList_95) ?_
  refine sm_istore_n (pc := 98) (n := 3) dX2_readList_98 rfl ?_
  refine sm_iload_n (pc := 99) (n := 3) dX2_readList_99 rfl ?_
  refine sm_bipush (pc := 100) dX2_readList_100 zc_b_93 ?_
  refine sm_icmpS_ne (pc := 102) (tgt := 117) dX2_readList_102 (by decide) ?_ ?_
  · skip
    refine sm_iload_n (pc := 117) (n := 3) dX2_readList_117 rfl ?_
    refine sm_bipush (pc := 118) dX2_readList_118 zc_b_44 ?_
    refine sm_icmpS_eq (pc := 120) (tgt := 132) dX2_readList_120 (by decide) ?_ ?_
    · skip
      refine sm_iincR (pc := 132) (n := 1) dX2_readList_132 zc_i_1 ?_
      refine sm_goto (pc := 135) (tgt := 33) dX2_readList_135 (by decide) ?_
      exact hr33.use
    · skip
      refine sm_aloadV_n (pc := 123) (n := 0) dX2_readList_123 rfl ?_
      refine sm_aloadV_n (pc := 124) (n := 0) dX2_readList_124 rfl ?_
      refine gf_X2_60 (pc := 125) rfl dX2_readList_125 ?_
      refine sm_cV (pc := 128) (ci := 2) (n := 2) (mc := 0) (ms := 0) rfl (zMet_str m_X2_refuset) (cr_X2_78 (X := X_X2_readList) (fr := 3) (frc := 2) (pc := 128) (mc := 0) (ms := 0) rfl (by decide) dX2_readList_128) ?_
      exact sm_zreturn (pc := 131) dX2_readList_131 rfl
  · skip
    refine sm_aloadV_n (pc := 105) (n := 0) dX2_readList_105 rfl ?_
    refine sm_dup (pc := 106) dX2_readList_106 ?_
    refine gf_X2_60 (pc := 107) rfl dX2_readList_107 ?_
    refine sm_iconst (pc := 110) dX2_readList_110 zc_i_1 ?_
    refine sm_iaddR (pc := 111) dX2_readList_111 ?_
    refine pf_X2_60 (pc := 112) rfl dX2_readList_112 ?_
    refine sm_iconst (pc := 115) dX2_readList_115 zc_i_1 ?_
    exact sm_zreturn (pc := 116) dX2_readList_116 rfl
noncomputable def cX2_readListt_79 {d : Nat} (P : zP d) (j84 : zK d) : zK d := (xgfI 18 8 (xild 2 (xasQ 0 (fun v => v) j84)))
set_option maxRecDepth 100000 in
set_option maxHeartbeats 4000000 in
theorem scX2_readListt_79 {d : Nat} [zGh] (P : zP d) (j84 : zK d) (hj84 : zSimJ 1 X_X2_readList 3 P 84 j84) : zSim X_X2_readList 3 P 79 (cX2_readListt_79 P j84) := by
  unfold cX2_readListt_79
  refine gf_X2_162 (pc := 79) rfl dX2_readList_79 ?_
  refine sm_iload_n (pc := 82) (n := 2) dX2_readList_82 rfl ?_
  refine sm_iastoreQ (pc := 83) dX2_readList_83 ?_
  exact hj84.use
noncomputable def lX2_readListt_33 {d : Nat} (P : zP d) (r33 : zK d) : zK d := (xild 1 (xpI 200 (xcmpS tgeR rlGe rhS rlS rhLt (xaldV 0 (xaldV 0 (xgfI 18 14 (xcV 18 2 0 0 (zstr f_X2_refuset) (xzret P))))) (xaldV 0 (xdup (xgfI 18 14 (xpI 1 (xbin zaddR (xpfI 18 14 (xaldV 0 (xcV 18 1 0 0 (zstr (zenT 18 14 g_X2_readNumber)) (xist 2 (xild 2 (xpI 4294967295 (xcmpS teqR rlEq rhEq rlNe rhNe (xpI 0 (xzret P)) (xaldV 0 (xgfI 18 8 (xaldV 0 (xgfR 18 7 (xlen (xjoin (bX2_readListt_84 P r33) (fun j84 => (xcmpS tgeR rlGe rhS rlS rhLt j84 (xaldV 0 (xgfR 18 7 (xaldV 0 (cX2_readListt_79 P j84)))))))))))))))))))))))))))
set_option maxRecDepth 100000 in
set_option maxHeartbeats 4000000 in
theorem slX2_readListt_33 {d : Nat} [zGh] (P : zP d) (r33 : zK d) (hr33 : zSimJ 1 X_X2_readList 3 P 33 r33) : zSim X_X2_readList 3 P 33 (lX2_readListt_33 P r33) := by
  unfold lX2_readListt_33
  refine sm_iload_n (pc := 33) (n := 1) dX2_readList_33 rfl ?_
  refine sm_sipush (pc := 34) dX2_readList_34 zc_s_200 ?_
  refine sm_icmpS_ge (pc := 37) (tgt := 138) dX2_readList_37 (by decide) ?_ ?_
  · skip
    refine sm_aloadV_n (pc := 138) (n := 0) dX2_readList_138 rfl ?_
    refine sm_aloadV_n (pc := 139) (n := 0) dX2_readList_139 rfl ?_
    refine gf_X2_60 (pc := 140) rfl dX2_readList_140 ?_
    refine sm_cV (pc := 143) (ci := 2) (n := 2) (mc := 0) (ms := 0) rfl (zMet_str m_X2_refuset) (cr_X2_78 (X := X_X2_readList) (fr := 3) (frc := 2) (pc := 143) (mc := 0) (ms := 0) rfl (by decide) dX2_readList_143) ?_
    exact sm_zreturn (pc := 146) dX2_readList_146 rfl
  · skip
    refine sm_aloadV_n (pc := 40) (n := 0) dX2_readList_40 rfl ?_
    refine sm_dup (pc := 41) dX2_readList_41 ?_
    refine gf_X2_60 (pc := 42) rfl dX2_readList_42 ?_
    refine sm_iconst (pc := 45) dX2_readList_45 zc_i_1 ?_
    refine sm_iaddR (pc := 46) dX2_readList_46 ?_
    refine pf_X2_60 (pc := 47) rfl dX2_readList_47 ?_
    refine sm_aloadV_n (pc := 50) (n := 0) dX2_readList_50 rfl ?_
    refine sm_cV (pc := 51) (ci := 2) (n := 1) (mc := 0) (ms := 0) rfl (zMet_str (zMet_en (ci := 2) rfl rfl (by decide) mg_X2_readNumber)) (cr_X2_153 (X := X_X2_readList) (fr := 3) (frc := 2) (pc := 51) (mc := 0) (ms := 0) rfl (by decide) dX2_readList_51) ?_
    refine sm_istore_n (pc := 54) (n := 2) dX2_readList_54 rfl ?_
    refine sm_iload_n (pc := 55) (n := 2) dX2_readList_55 rfl ?_
    refine sm_iconst (pc := 56) dX2_readList_56 zc_i_m1 ?_
    refine sm_icmpS_ne (pc := 57) (tgt := 62) dX2_readList_57 (by decide) ?_ ?_
    · skip
      refine sm_aloadV_n (pc := 62) (n := 0) dX2_readList_62 rfl ?_
      refine gf_X2_162 (pc := 63) rfl dX2_readList_63 ?_
      refine sm_aloadV_n (pc := 66) (n := 0) dX2_readList_66 rfl ?_
      refine gf_X2_39 (pc := 67) rfl dX2_readList_67 ?_
      refine sm_arraylength (pc := 70) dX2_readList_70 ?_
      refine sm_joinJ (pc := 71) (pc' := 84) (j := 1) (fun G0 hG0 => @sbX2_readListt_84 d G0 P r33 (hr33.mv hG0 (by decide))) (fun j84 hj84 => ?_)
      refine sm_icmpS_ge (pc := 71) (tgt := 84) dX2_readList_71 (by decide) ?_ ?_
      · skip
        exact hj84.use
      · skip
        refine sm_aloadV_n (pc := 74) (n := 0) dX2_readList_74 rfl ?_
        refine gf_X2_39 (pc := 75) rfl dX2_readList_75 ?_
        refine sm_aloadV_n (pc := 78) (n := 0) dX2_readList_78 rfl ?_
        exact scX2_readListt_79 P j84 hj84
    · skip
      refine sm_iconst (pc := 60) dX2_readList_60 zc_i_0 ?_
      exact sm_zreturn (pc := 61) dX2_readList_61 rfl
noncomputable def b_X2_readListt {d : Nat} (P : zP d) : zK d := (xaldV 0 (xcV 18 1 0 0 (zstr (zenT 18 14 g_X2_next)) (xpI 91 (xcmpS teqR rlEq rhEq rlNe rhNe (xaldV 0 (xaldV 0 (xgfI 18 14 (xpfI 18 9 (xaldV 0 (xpI 0 (xpfI 18 8 (xpI 0 (xist 1 (xloop (fun r33 => (lX2_readListt_33 P r33)) 100000)))))))))) (xaldV 0 (xaldV 0 (xgfI 18 14 (xcV 18 2 0 0 (zstr f_X2_refuset) (xzret P)))))))))
set_option maxRecDepth 100000 in
set_option maxHeartbeats 4000000 in
theorem s_X2_readListt {d : Nat} [zGh] (P : zP d) : zSim X_X2_readList 3 P 0 (b_X2_readListt P) := by
  unfold b_X2_readListt
  refine sm_aloadV_n (pc := 0) (n := 0) dX2_readList_0 rfl ?_
  refine sm_cV (pc := 1) (ci := 2) (n := 1) (mc := 0) (ms := 0) rfl (zMet_str (zMet_en (ci := 2) rfl rfl (by decide) mg_X2_next)) (cr_X2_74 (X := X_X2_readList) (fr := 3) (frc := 1) (pc := 1) (mc := 0) (ms := 0) rfl (by decide) dX2_readList_1) ?_
  refine sm_bipush (pc := 4) dX2_readList_4 zc_b_91 ?_
  refine sm_icmpS_eq (pc := 6) (tgt := 18) dX2_readList_6 (by decide) ?_ ?_
  · skip
    refine sm_aloadV_n (pc := 18) (n := 0) dX2_readList_18 rfl ?_
    refine sm_aloadV_n (pc := 19) (n := 0) dX2_readList_19 rfl ?_
    refine gf_X2_60 (pc := 20) rfl dX2_readList_20 ?_
    refine pf_X2_159 (pc := 23) rfl dX2_readList_23 ?_
    refine sm_aloadV_n (pc := 26) (n := 0) dX2_readList_26 rfl ?_
    refine sm_iconst (pc := 27) dX2_readList_27 zc_i_0 ?_
    refine pf_X2_162 (pc := 28) rfl dX2_readList_28 ?_
    refine sm_iconst (pc := 31) dX2_readList_31 zc_i_0 ?_
    refine sm_istore_n (pc := 32) (n := 1) dX2_readList_32 rfl ?_
    exact (sm_loopJ (j := 1) (fun G1 hG1 r33 hr33 => @slX2_readListt_33 d G1 P r33 hr33) _).use
  · skip
    refine sm_aloadV_n (pc := 9) (n := 0) dX2_readList_9 rfl ?_
    refine sm_aloadV_n (pc := 10) (n := 0) dX2_readList_10 rfl ?_
    refine gf_X2_60 (pc := 11) rfl dX2_readList_11 ?_
    refine sm_cV (pc := 14) (ci := 2) (n := 2) (mc := 0) (ms := 0) rfl (zMet_str m_X2_refuset) (cr_X2_78 (X := X_X2_readList) (fr := 3) (frc := 2) (pc := 14) (mc := 0) (ms := 0) rfl (by decide) dX2_readList_14) ?_
    exact sm_zreturn (pc := 17) dX2_readList_17 rfl
noncomputable def f_X2_readListt {d : Nat} : List zV → zH d → zP d → Bool := zfn 4 (b_X2_readListt )
theorem m_X2_readListt {d : Nat} : zMet (d := d) X_X2_readList yX2_readList 3 (f_X2_readListt ) := zmet_mk (X := X_X2_readList) (by decide) rfl rfl (fun P => s_X2_readListt P)
end
