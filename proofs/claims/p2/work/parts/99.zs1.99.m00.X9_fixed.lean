/-! the reference by summaries, by program -/
noncomputable def cX9_fixeda_114 {d : Nat} (P : zP d) (r32 : zK d) : zK d := (xincR 4 1 r32)
set_option maxRecDepth 100000 in
set_option maxHeartbeats 4000000 in
theorem scX9_fixeda_114 {d : Nat} [zGh] (P : zP d) (r32 : zK d) (hr32 : zSimJ 3 X_X9_fixed 18 P 32 r32) : zSim X_X9_fixed 18 P 114 (cX9_fixeda_114 P r32) := by
  unfold cX9_fixeda_114
  refine sm_iincR (pc := 114) (n := 4) dX9_fixed_114 zc_i_1 ?_
  refine sm_goto (pc := 117) (tgt := 32) dX9_fixed_117 (by decide) ?_
  exact hr32.use
noncomputable def cX9_fixeda_77 {d : Nat} (P : zP d) (r32 : zK d) : zK d := (xbin zaddR (xild 4 (xbin zaddR (xalQ 0 (xbin zsubR (xist 5 (xald 0 (xgfR 25 34 (xpI 16 (xild 3 (xbin zmulR (xild 4 (xbin zaddR (xild 5 (xald 0 (xgfI 25 1 (xbinN zremR (xald 0 (xgfI 25 1 (xbin zaddR (xald 0 (xgfI 25 1 (xbinN zremR (xasQ 0 (fun v => v) (cX9_fixeda_114 P r32)))))))))))))))))))))))))
set_option maxRecDepth 100000 in
set_option maxHeartbeats 4000000 in
theorem scX9_fixeda_77 {d : Nat} [zGh] (P : zP d) (r32 : zK d) (hr32 : zSimJ 3 X_X9_fixed 18 P 32 r32) : zSim X_X9_fixed 18 P 77 (cX9_fixeda_77 P r32) := by
  unfold cX9_fixeda_77
  refine sm_iaddR (pc := 77) dX9_fixed_77 ?_
  refine sm_iload (pc := 78) (n := 4) dX9_fixed_78 ?_
  refine sm_iaddR (pc := 80) dX9_fixed_80 ?_
  refine sm_ialoadQ (pc := 81) dX9_fixed_81 ?_
  refine sm_isubR (pc := 82) dX9_fixed_82 ?_
  refine sm_istore (pc := 83) (n := 5) dX9_fixed_83 ?_
  refine sm_aload_n (pc := 85) (n := 0) dX9_fixed_85 rfl ?_
  refine gf_X9_87 (pc := 86) rfl dX9_fixed_86 ?_
  refine sm_bipush (pc := 89) dX9_fixed_89 zc_b_16 ?_
  refine sm_iload_n (pc := 91) (n := 3) dX9_fixed_91 rfl ?_
  refine sm_imulR (pc := 92) dX9_fixed_92 ?_
  refine sm_iload (pc := 93) (n := 4) dX9_fixed_93 ?_
  refine sm_iaddR (pc := 95) dX9_fixed_95 ?_
  refine sm_iload (pc := 96) (n := 5) dX9_fixed_96 ?_
  refine sm_aload_n (pc := 98) (n := 0) dX9_fixed_98 rfl ?_
  refine gf_X9_184 (pc := 99) rfl dX9_fixed_99 ?_
  refine sm_iremR (pc := 102) dX9_fixed_102 ?_
  refine sm_aload_n (pc := 103) (n := 0) dX9_fixed_103 rfl ?_
  refine gf_X9_184 (pc := 104) rfl dX9_fixed_104 ?_
  refine sm_iaddR (pc := 107) dX9_fixed_107 ?_
  refine sm_aload_n (pc := 108) (n := 0) dX9_fixed_108 rfl ?_
  refine gf_X9_184 (pc := 109) rfl dX9_fixed_109 ?_
  refine sm_iremR (pc := 112) dX9_fixed_112 ?_
  refine sm_iastoreQ (pc := 113) dX9_fixed_113 ?_
  exact scX9_fixeda_114 P r32 hr32
noncomputable def lX9_fixeda_32 {d : Nat} (P : zP d) (r16 : zK d) (r32 : zK d) : zK d := (xild 4 (xald 0 (xgfR 25 21 (xald 0 (xgfI 25 25 (xalQ 0 (xcmpS tgeR rlGe rhS rlS rhLt (xincR 3 1 r16) (xald 0 (xald 0 (xgfR 25 29 (xild 3 (xald 0 (xgfR 25 30 (xild 4 (xcV 25 5 0 0 (zstr f_X9_forma) (xald 0 (xgfR 25 35 (xpI 256 (xald 0 (xgfI 25 25 (xbin zmulR (xpI 16 (xild 3 (xbin zmulR (cX9_fixeda_77 P r32)))))))))))))))))))))))))
set_option maxRecDepth 100000 in
set_option maxHeartbeats 4000000 in
theorem slX9_fixeda_32 {d : Nat} [zGh] (P : zP d) (r16 : zK d) (r32 : zK d) (hr16 : zSimJ 2 X_X9_fixed 18 P 16 r16) (hr32 : zSimJ 3 X_X9_fixed 18 P 32 r32) : zSim X_X9_fixed 18 P 32 (lX9_fixeda_32 P r16 r32) := by
  unfold lX9_fixeda_32
  refine sm_iload (pc := 32) (n := 4) dX9_fixed_32 ?_
  refine sm_aload_n (pc := 34) (n := 0) dX9_fixed_34 rfl ?_
  refine gf_X9_56 (pc := 35) rfl dX9_fixed_35 ?_
  refine sm_aload_n (pc := 38) (n := 0) dX9_fixed_38 rfl ?_
  refine gf_X9_205 (pc := 39) rfl dX9_fixed_39 ?_
  refine sm_ialoadQ (pc := 42) dX9_fixed_42 ?_
  refine sm_icmpS_ge (pc := 43) (tgt := 120) dX9_fixed_43 (by decide) ?_ ?_
  · skip
    refine sm_iincR (pc := 120) (n := 3) dX9_fixed_120 zc_i_1 ?_
    refine sm_goto (pc := 123) (tgt := 16) dX9_fixed_123 (by decide) ?_
    exact hr16.use
  · skip
    refine sm_aload_n (pc := 46) (n := 0) dX9_fixed_46 rfl ?_
    refine sm_aload_n (pc := 47) (n := 0) dX9_fixed_47 rfl ?_
    refine gf_X9_72 (pc := 48) rfl dX9_fixed_48 ?_
    refine sm_iload_n (pc := 51) (n := 3) dX9_fixed_51 rfl ?_
    refine sm_aload_n (pc := 52) (n := 0) dX9_fixed_52 rfl ?_
    refine gf_X9_75 (pc := 53) rfl dX9_fixed_53 ?_
    refine sm_iload (pc := 56) (n := 4) dX9_fixed_56 ?_
    refine sm_cV (pc := 58) (ci := 9) (n := 5) (mc := 0) (ms := 0) rfl (zMet_str m_X9_forma) (cr_X9_245 (X := X_X9_fixed) (fr := 18) (frc := 1) (pc := 58) (mc := 0) (ms := 0) rfl (by decide) dX9_fixed_58) ?_
    refine sm_aload_n (pc := 61) (n := 0) dX9_fixed_61 rfl ?_
    refine gf_X9_90 (pc := 62) rfl dX9_fixed_62 ?_
    refine sm_sipush (pc := 65) dX9_fixed_65 zc_s_256 ?_
    refine sm_aload_n (pc := 68) (n := 0) dX9_fixed_68 rfl ?_
    refine gf_X9_205 (pc := 69) rfl dX9_fixed_69 ?_
    refine sm_imulR (pc := 72) dX9_fixed_72 ?_
    refine sm_bipush (pc := 73) dX9_fixed_73 zc_b_16 ?_
    refine sm_iload_n (pc := 75) (n := 3) dX9_fixed_75 rfl ?_
    refine sm_imulR (pc := 76) dX9_fixed_76 ?_
    exact scX9_fixeda_77 P r32 hr32
noncomputable def lX9_fixeda_16 {d : Nat} (P : zP d) (r16 : zK d) : zK d := (xild 3 (xald 0 (xgfR 25 21 (xald 0 (xgfI 25 25 (xalQ 0 (xcmpS tgeR rlGe rhS rlS rhLt (xald 0 (xgfR 25 36 (xald 0 (xgfI 25 25 (xalQ 0 (xald 0 (xald 0 (xgfR 25 21 (xald 0 (xgfI 25 25 (xalQ 0 (xcV 25 2 0 0 (zstr gs_X9_rankOf) (xbin zsubR (xiret P)))))))))))))) (xpI 0 (xist 4 (xlp 4 2 (hsC 17) wkE (fun r32 => (lX9_fixeda_32 P r16 r32))))))))))))
set_option maxRecDepth 100000 in
set_option maxHeartbeats 4000000 in
theorem slX9_fixeda_16 {d : Nat} [zGh] (P : zP d) (r16 : zK d) (hr16 : zSimJ 2 X_X9_fixed 18 P 16 r16) : zSim X_X9_fixed 18 P 16 (lX9_fixeda_16 P r16) := by
  unfold lX9_fixeda_16
  refine sm_iload_n (pc := 16) (n := 3) dX9_fixed_16 rfl ?_
  refine sm_aload_n (pc := 17) (n := 0) dX9_fixed_17 rfl ?_
  refine gf_X9_56 (pc := 18) rfl dX9_fixed_18 ?_
  refine sm_aload_n (pc := 21) (n := 0) dX9_fixed_21 rfl ?_
  refine gf_X9_205 (pc := 22) rfl dX9_fixed_22 ?_
  refine sm_ialoadQ (pc := 25) dX9_fixed_25 ?_
  refine sm_icmpS_ge (pc := 26) (tgt := 126) dX9_fixed_26 (by decide) ?_ ?_
  · skip
    refine sm_aload_n (pc := 126) (n := 0) dX9_fixed_126 rfl ?_
    refine gf_X9_93 (pc := 127) rfl dX9_fixed_127 ?_
    refine sm_aload_n (pc := 130) (n := 0) dX9_fixed_130 rfl ?_
    refine gf_X9_205 (pc := 131) rfl dX9_fixed_131 ?_
    refine sm_ialoadQ (pc := 134) dX9_fixed_134 ?_
    refine sm_aload_n (pc := 135) (n := 0) dX9_fixed_135 rfl ?_
    refine sm_aload_n (pc := 136) (n := 0) dX9_fixed_136 rfl ?_
    refine gf_X9_56 (pc := 137) rfl dX9_fixed_137 ?_
    refine sm_aload_n (pc := 140) (n := 0) dX9_fixed_140 rfl ?_
    refine gf_X9_205 (pc := 141) rfl dX9_fixed_141 ?_
    refine sm_ialoadQ (pc := 144) dX9_fixed_144 ?_
    refine sm_cV (pc := 145) (ci := 9) (n := 2) (mc := 0) (ms := 0) rfl (zMet_str mgs_X9_rankOf) (cr_X9_249 (X := X_X9_fixed) (fr := 18) (frc := 2) (pc := 145) (mc := 0) (ms := 0) rfl (by decide) dX9_fixed_145) ?_
    refine sm_isubR (pc := 148) dX9_fixed_148 ?_
    exact sm_ireturn (pc := 149) dX9_fixed_149 rfl
  · skip
    refine sm_iconst (pc := 29) dX9_fixed_29 zc_i_0 ?_
    refine sm_istore (pc := 30) (n := 4) dX9_fixed_30 ?_
    exact sm_lp (i := 4) (j := 2) (by decide) (by decide) hsC_ok wkE_ok (fun G1 hG1 r32 hr32 => @slX9_fixeda_32 d G1 P r16 r32 (hr16.mv hG1 (by decide)) hr32)
noncomputable def b_X9_fixeda {d : Nat} (P : zP d) : zK d := (xald 0 (xild 1 (xild 2 (xcV 25 3 0 0 (zstr gs_X9_moves) (xald 0 (xald 0 (xgfR 25 30 (xcV 25 2 0 0 (zstr gs_X9_sumsOf) (xpI 0 (xist 3 (xlp 3 1 (hsC 17) (wkA 0 [34] 4294967296 wkE) (fun r16 => (lX9_fixeda_16 P r16)))))))))))))
set_option maxRecDepth 100000 in
set_option maxHeartbeats 4000000 in
theorem s_X9_fixeda {d : Nat} [zGh] (P : zP d) : zSim X_X9_fixed 18 P 0 (b_X9_fixeda P) := by
  unfold b_X9_fixeda
  refine sm_aload_n (pc := 0) (n := 0) dX9_fixed_0 rfl ?_
  refine sm_iload_n (pc := 1) (n := 1) dX9_fixed_1 rfl ?_
  refine sm_iload_n (pc := 2) (n := 2) dX9_fixed_2 rfl ?_
  refine sm_cV (pc := 3) (ci := 9) (n := 3) (mc := 0) (ms := 0) rfl (zMet_str mgs_X9_moves) (cr_X9_252 (X := X_X9_fixed) (fr := 18) (frc := 2) (pc := 3) (mc := 0) (ms := 0) rfl (by decide) dX9_fixed_3) ?_
  refine sm_aload_n (pc := 6) (n := 0) dX9_fixed_6 rfl ?_
  refine sm_aload_n (pc := 7) (n := 0) dX9_fixed_7 rfl ?_
  refine gf_X9_75 (pc := 8) rfl dX9_fixed_8 ?_
  refine sm_cV (pc := 11) (ci := 9) (n := 2) (mc := 0) (ms := 0) rfl (zMet_str mgs_X9_sumsOf) (cr_X9_234 (X := X_X9_fixed) (fr := 18) (frc := 17) (pc := 11) (mc := 0) (ms := 0) rfl (by decide) dX9_fixed_11) ?_
  refine sm_iconst (pc := 14) dX9_fixed_14 zc_i_0 ?_
  refine sm_istore_n (pc := 15) (n := 3) dX9_fixed_15 rfl ?_
  exact sm_lp (i := 3) (j := 1) (by decide) (by decide) hsC_ok (wkA_ok wkE_ok) (fun G1 hG1 r16 hr16 => @slX9_fixeda_16 d G1 P r16 hr16)
noncomputable def f_X9_fixeda {d : Nat} : List zV → zH d → zP d → Bool := zfn 6 b_X9_fixeda
theorem m_X9_fixeda {d : Nat} : zMet (d := d) X_X9_fixed yX9_fixed 18 f_X9_fixeda := zmet_mk (X := X_X9_fixed) (by decide) rfl rfl s_X9_fixeda

