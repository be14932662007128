section
/-! the class reads on: by program -/
noncomputable def bX2_takeCharactert_86 {d : Nat} (f1 : List zV → zH d → zP d → Bool) (P : zP d) : zK d := (xaldV 0 (xaldV 0 (xild 2 (xild 3 (xcV 18 3 0 0 (zstr f_X2_rowFort) (xaldV 0 (xgfR 18 3 (xild 1 (xaaT (xcV 18 3 0 0 (zstr f_X2_copyt) (xpI 1 (xzret P))))))))))))
set_option maxRecDepth 100000 in
set_option maxHeartbeats 4000000 in
theorem sbX2_takeCharactert_86 {d : Nat} [zGh] (n1 : Nat) (f1 : List zV → zH d → zP d → Bool) (hf1 : zMet X_X7_numberOf yX7_numberOf n1 f1) (P : zP d) : zSim X_X2_takeCharacter (n1 + 3) P 86 (bX2_takeCharactert_86 f1 P) := by
  unfold bX2_takeCharactert_86
  refine sm_aloadV_n (pc := 86) (n := 0) dX2_takeCharacter_86 rfl ?_
  refine sm_aloadV_n (pc := 87) (n := 0) dX2_takeCharacter_87 rfl ?_
  refine sm_iload_n (pc := 88) (n := 2) dX2_takeCharacter_88 rfl ?_
  refine sm_iload_n (pc := 89) (n := 3) dX2_takeCharacter_89 rfl ?_
  refine sm_cV (pc := 90) (ci := 2) (n := 3) (mc := 0) (ms := 0) rfl (zMet_str m_X2_rowFort) (cr_X2_174 (X := X_X2_takeCharacter) (fr := n1 + 3) (frc := 1) (pc := 90) (mc := 0) (ms := 0) rfl (by omega) dX2_takeCharacter_90) ?_
  refine sm_aloadV_n (pc := 93) (n := 0) dX2_takeCharacter_93 rfl ?_
  refine gf_X2_26 (pc := 94) rfl dX2_takeCharacter_94 ?_
  refine sm_iload_n (pc := 97) (n := 1) dX2_takeCharacter_97 rfl ?_
  refine sm_aaloadT (pc := 98) dX2_takeCharacter_98 ?_
  refine sm_cV (pc := 99) (ci := 2) (n := 3) (mc := 0) (ms := 0) rfl (zMet_str m_X2_copyt) (cr_X2_143 (X := X_X2_takeCharacter) (fr := n1 + 3) (frc := 1) (pc := 99) (mc := 0) (ms := 0) rfl (by omega) dX2_takeCharacter_99) ?_
  refine sm_iconst (pc := 102) dX2_takeCharacter_102 zc_i_1 ?_
  exact sm_zreturn (pc := 103) dX2_takeCharacter_103 rfl
noncomputable def bX2_takeCharactert_61 {d : Nat} (f1 : List zV → zH d → zP d → Bool) (P : zP d) (j86 : zK d) : zK d := (xaldV 0 (xgfR 18 13 (xild 3 (xcV 21 2 0 0 (zstr f_X5_isRegulart) (xif0S teqR rlEq rhEq rlNe rhNe (xaldV 0 (xpI 3 (xaldV 0 (xgfR 18 6 (xild 1 (xalQ 0 (xild 1 (xpI 0 (xcV 18 5 0 0 (zstr f_X2_failt) (xzret P)))))))))) j86)))))
set_option maxRecDepth 100000 in
set_option maxHeartbeats 4000000 in
theorem sbX2_takeCharactert_61 {d : Nat} [zGh] (n1 : Nat) (f1 : List zV → zH d → zP d → Bool) (hf1 : zMet X_X7_numberOf yX7_numberOf n1 f1) (P : zP d) (j86 : zK d) (hj86 : zSimJ 1 X_X2_takeCharacter (n1 + 3) P 86 j86) : zSim X_X2_takeCharacter (n1 + 3) P 61 (bX2_takeCharactert_61 f1 P j86) := by
  unfold bX2_takeCharactert_61
  refine sm_aloadV_n (pc := 61) (n := 0) dX2_takeCharacter_61 rfl ?_
  refine gf_X2_53 (pc := 62) rfl dX2_takeCharacter_62 ?_
  refine sm_iload_n (pc := 65) (n := 3) dX2_takeCharacter_65 rfl ?_
  refine sm_cV (pc := 66) (ci := 5) (n := 2) (mc := 0) (ms := 0) rfl (zMet_str m_X5_isRegulart) (cr_X2_169 (X := X_X2_takeCharacter) (fr := n1 + 3) (frc := 1) (pc := 66) (mc := 0) (ms := 0) rfl (by omega) dX2_takeCharacter_66) ?_
  refine sm_ifS_ne (pc := 69) (tgt := 86) dX2_takeCharacter_69 (by decide) ?_ ?_
  · skip
    exact hj86.use
  · skip
    refine sm_aloadV_n (pc := 72) (n := 0) dX2_takeCharacter_72 rfl ?_
    refine sm_iconst (pc := 73) dX2_takeCharacter_73 zc_i_3 ?_
    refine sm_aloadV_n (pc := 74) (n := 0) dX2_takeCharacter_74 rfl ?_
    refine gf_X2_36 (pc := 75) rfl dX2_takeCharacter_75 ?_
    refine sm_iload_n (pc := 78) (n := 1) dX2_takeCharacter_78 rfl ?_
    refine sm_ialoadQ (pc := 79) dX2_takeCharacter_79 ?_
    refine sm_iload_n (pc := 80) (n := 1) dX2_takeCharacter_80 rfl ?_
    refine sm_iconst (pc := 81) dX2_takeCharacter_81 zc_i_0 ?_
    refine sm_cV (pc := 82) (ci := 2) (n := 5) (mc := 0) (ms := 0) rfl (zMet_str m_X2_failt) (cr_X2_115 (X := X_X2_takeCharacter) (fr := n1 + 3) (frc := 2) (pc := 82) (mc := 0) (ms := 0) rfl (by omega) dX2_takeCharacter_82) ?_
    exact sm_zreturn (pc := 85) dX2_takeCharacter_85 rfl
noncomputable def bX2_takeCharactert_31 {d : Nat} (f1 : List zV → zH d → zP d → Bool) (P : zP d) : zK d := (xist 3 (xild 3 (xpI 4294967295 (xcmpS teqR rlEq rhEq rlNe rhNe (xaldV 0 (xpI 2 (xaldV 0 (xgfI 18 9 (xild 1 (xpI 0 (xcV 18 5 0 0 (zstr f_X2_failt) (xzret P)))))))) (xcutE 3 11 (xild 2 (xpI 68 (xjoin (bX2_takeCharactert_86 f1 P) (fun j86 => (xjoin (bX2_takeCharactert_61 f1 P j86) (fun j61 => (xcmpS teqR rlEq rhEq rlNe rhNe j61 (xild 2 (xpI 80 (xcmpS teqR rlEq rhEq rlNe rhNe j61 j86)))))))))))))))
set_option maxRecDepth 100000 in
set_option maxHeartbeats 4000000 in
theorem sbX2_takeCharactert_31 {d : Nat} [zGh] (n1 : Nat) (f1 : List zV → zH d → zP d → Bool) (hf1 : zMet X_X7_numberOf yX7_numberOf n1 f1) (P : zP d) : zSim X_X2_takeCharacter (n1 + 3) P 31 (bX2_takeCharactert_31 f1 P) := by
  unfold bX2_takeCharactert_31
  refine sm_istore_n (pc := 31) (n := 3) dX2_takeCharacter_31 rfl ?_
  refine sm_iload_n (pc := 32) (n := 3) dX2_takeCharacter_32 rfl ?_
  refine sm_iconst (pc := 33) dX2_takeCharacter_33 zc_i_m1 ?_
  refine sm_icmpS_ne (pc := 34) (tgt := 49) dX2_takeCharacter_34 (by decide) ?_ ?_
  · skip
    refine sm_cutE (i := 3) (m0 := 11) ?_
    refine sm_iload_n (pc := 49) (n := 2) dX2_takeCharacter_49 rfl ?_
    refine sm_bipush (pc := 50) dX2_takeCharacter_50 zc_b_68 ?_
    refine sm_joinJ (pc := 52) (pc' := 86) (j := 1) (fun G0 hG0 => @sbX2_takeCharactert_86 d G0 n1 f1 hf1 P) (fun j86 hj86 => ?_)
    refine sm_joinJ (pc := 52) (pc' := 61) (j := 1) (fun G0 hG0 => @sbX2_takeCharactert_61 d G0 n1 f1 hf1 P j86 (hj86.mv hG0 (by decide))) (fun j61 hj61 => ?_)
    refine sm_icmpS_eq (pc := 52) (tgt := 61) dX2_takeCharacter_52 (by decide) ?_ ?_
    · skip
      exact hj61.use
    · skip
      refine sm_iload_n (pc := 55) (n := 2) dX2_takeCharacter_55 rfl ?_
      refine sm_bipush (pc := 56) dX2_takeCharacter_56 zc_b_80 ?_
      refine sm_icmpS_ne (pc := 58) (tgt := 86) dX2_takeCharacter_58 (by decide) ?_ ?_
      · skip
        exact hj86.use
      · skip
        exact hj61.use
  · skip
    refine sm_aloadV_n (pc := 37) (n := 0) dX2_takeCharacter_37 rfl ?_
    refine sm_iconst (pc := 38) dX2_takeCharacter_38 zc_i_2 ?_
    refine sm_aloadV_n (pc := 39) (n := 0) dX2_takeCharacter_39 rfl ?_
    refine gf_X2_159 (pc := 40) rfl dX2_takeCharacter_40 ?_
    refine sm_iload_n (pc := 43) (n := 1) dX2_takeCharacter_43 rfl ?_
    refine sm_iconst (pc := 44) dX2_takeCharacter_44 zc_i_0 ?_
    refine sm_cV (pc := 45) (ci := 2) (n := 5) (mc := 0) (ms := 0) rfl (zMet_str m_X2_failt) (cr_X2_115 (X := X_X2_takeCharacter) (fr := n1 + 3) (frc := 2) (pc := 45) (mc := 0) (ms := 0) rfl (by omega) dX2_takeCharacter_45) ?_
    exact sm_zreturn (pc := 48) dX2_takeCharacter_48 rfl
noncomputable def b_X2_takeCharactert {d : Nat} (f1 : List zV → zH d → zP d → Bool) (P : zP d) : zK d := (xaldV 0 (xgfI 18 8 (xaldV 0 (xgfR 18 7 (xlen (xjoin (bX2_takeCharactert_31 f1 P) (fun j31 => (xcmpS tleR rlS rhLe rlGt rhS (xaldV 0 (xgfR 18 12 (xaldV 0 (xgfR 18 7 (xaldV 0 (xgfI 18 8 (xcV 23 3 0 0 (zstr f1) j31))))))) (xpI 4294967295 j31)))))))))
set_option maxRecDepth 100000 in
set_option maxHeartbeats 4000000 in
theorem s_X2_takeCharactert {d : Nat} [zGh] (n1 : Nat) (f1 : List zV → zH d → zP d → Bool) (hf1 : zMet X_X7_numberOf yX7_numberOf n1 f1) (P : zP d) : zSim X_X2_takeCharacter (n1 + 3) P 0 (b_X2_takeCharactert f1 P) := by
  unfold b_X2_takeCharactert
  refine sm_aloadV_n (pc := 0) (n := 0) dX2_takeCharacter_0 rfl ?_
  refine gf_X2_162 (pc := 1) rfl dX2_takeCharacter_1 ?_
  refine sm_aloadV_n (pc := 4) (n := 0) dX2_takeCharacter_4 rfl ?_
  refine gf_X2_39 (pc := 5) rfl dX2_takeCharacter_5 ?_
  refine sm_arraylength (pc := 8) dX2_takeCharacter_8 ?_
  refine sm_joinJ (pc := 9) (pc' := 31) (j := 1) (fun G0 hG0 => @sbX2_takeCharactert_31 d G0 n1 f1 hf1 P) (fun j31 hj31 => ?_)
  refine sm_icmpS_gt (pc := 9) (tgt := 30) dX2_takeCharacter_9 (by decide) ?_ ?_
  · skip
    refine sm_iconst (pc := 30) dX2_takeCharacter_30 zc_i_m1 ?_
    exact hj31.use
  · skip
    refine sm_aloadV_n (pc := 12) (n := 0) dX2_takeCharacter_12 rfl ?_
    refine gf_X2_49 (pc := 13) rfl dX2_takeCharacter_13 ?_
    refine sm_aloadV_n (pc := 16) (n := 0) dX2_takeCharacter_16 rfl ?_
    refine gf_X2_39 (pc := 17) rfl dX2_takeCharacter_17 ?_
    refine sm_aloadV_n (pc := 20) (n := 0) dX2_takeCharacter_20 rfl ?_
    refine gf_X2_162 (pc := 21) rfl dX2_takeCharacter_21 ?_
    refine sm_cV (pc := 24) (ci := 7) (n := 3) (mc := 0) (ms := 0) rfl (zMet_str hf1) (cr_X2_165 (X := X_X2_takeCharacter) (fr := n1 + 3) (frc := n1) (pc := 24) (mc := 0) (ms := 0) rfl (by omega) dX2_takeCharacter_24) ?_
    refine sm_goto (pc := 27) (tgt := 31) dX2_takeCharacter_27 (by decide) ?_
    exact hj31.use
noncomputable def f_X2_takeCharactert {d : Nat} (f1 : List zV → zH d → zP d → Bool) : List zV → zH d → zP d → Bool := zfn 4 (b_X2_takeCharactert f1 )
theorem m_X2_takeCharactert {d : Nat} (n1 : Nat) (f1 : List zV → zH d → zP d → Bool) (hf1 : zMet X_X7_numberOf yX7_numberOf n1 f1) : zMet (d := d) X_X2_takeCharacter yX2_takeCharacter (n1 + 3) (f_X2_takeCharactert f1 ) := zmet_mk (X := X_X2_takeCharacter) (by decide) rfl rfl (fun P => s_X2_takeCharactert n1 f1 hf1 P)

noncomputable def cX2_readInBracketst_64 {d : Nat} (f1 : List zV → zH d → zP d → Bool) (P : zP d) : zK d := (xpI 1 (xbin zaddR (xpfI 18 14 (xaldV 0 (xgfR 18 1 (xild 1 (xpI 1 (xbin zaddR (xaaT (xpI 0 (xaldV 0 (xgfR 18 3 (xild 1 (xaaT (xpI 0 (xaldV 0 (xgfR 18 12 (xgfI 23 1 (xcpy 2 72 (xpI 1 (xzret P)))))))))))))))))))))
set_option maxRecDepth 100000 in
set_option maxHeartbeats 4000000 in
theorem scX2_readInBracketst_64 {d : Nat} [zGh] (n1 : Nat) (f1 : List zV → zH d → zP d → Bool) (hf1 : zMet X_X2_readSum yX2_readSum n1 f1) (P : zP d) : zSim X_X2_readInBrackets (n1 + 3) P 64 (cX2_readInBracketst_64 f1 P) := by
  unfold cX2_readInBracketst_64
  refine sm_iconst (pc := 64) dX2_readInBrackets_64 zc_i_1 ?_
  refine sm_iaddR (pc := 65) dX2_readInBrackets_65 ?_
  refine pf_X2_60 (pc := 66) rfl dX2_readInBrackets_66 ?_
  refine sm_aloadV_n (pc := 69) (n := 0) dX2_readInBrackets_69 rfl ?_
  refine gf_X2_20 (pc := 70) rfl dX2_readInBrackets_70 ?_
  refine sm_iload_n (pc := 73) (n := 1) dX2_readInBrackets_73 rfl ?_
  refine sm_iconst (pc := 74) dX2_readInBrackets_74 zc_i_1 ?_
  refine sm_iaddR (pc := 75) dX2_readInBrackets_75 ?_
  refine sm_aaloadT (pc := 76) dX2_readInBrackets_76 ?_
  refine sm_iconst (pc := 77) dX2_readInBrackets_77 zc_i_0 ?_
  refine sm_aloadV_n (pc := 78) (n := 0) dX2_readInBrackets_78 rfl ?_
  refine gf_X2_26 (pc := 79) rfl dX2_readInBrackets_79 ?_
  refine sm_iload_n (pc := 82) (n := 1) dX2_readInBrackets_82 rfl ?_
  refine sm_aaloadT (pc := 83) dX2_readInBrackets_83 ?_
  refine sm_iconst (pc := 84) dX2_readInBrackets_84 zc_i_0 ?_
  refine sm_aloadV_n (pc := 85) (n := 0) dX2_readInBrackets_85 rfl ?_
  refine gf_X2_49 (pc := 86) rfl dX2_readInBrackets_86 ?_
  refine gf_X2_100 (pc := 89) rfl dX2_readInBrackets_89 ?_
  refine sm_copyJ (pc := 92) wd_753 wd_80 wd_79 wd_7 (by omega) dX2_readInBrackets_92 ?_
  refine sm_iconst (pc := 95) dX2_readInBrackets_95 zc_i_1 ?_
  exact sm_zreturn (pc := 96) dX2_readInBrackets_96 rfl
noncomputable def cX2_readInBracketst_55 {d : Nat} (f1 : List zV → zH d → zP d → Bool) (P : zP d) : zK d := (xcV 18 2 0 0 (zstr f_X2_refuset) (xzret P))
set_option maxRecDepth 100000 in
set_option maxHeartbeats 4000000 in
theorem scX2_readInBracketst_55 {d : Nat} [zGh] (n1 : Nat) (f1 : List zV → zH d → zP d → Bool) (hf1 : zMet X_X2_readSum yX2_readSum n1 f1) (P : zP d) : zSim X_X2_readInBrackets (n1 + 3) P 55 (cX2_readInBracketst_55 f1 P) := by
  unfold cX2_readInBracketst_55
  refine sm_cV (pc := 55) (ci := 2) (n := 2) (mc := 0) (ms := 0) rfl (zMet_str m_X2_refuset) (cr_X2_78 (X := X_X2_readInBrackets) (fr := n1 + 3) (frc := 2) (pc := 55) (mc := 0) (ms := 0) rfl (by omega) dX2_readInBrackets_55) ?_
  exact sm_zreturn (pc := 58) dX2_readInBrackets_58 rfl
noncomputable def b_X2_readInBracketst {d : Nat} (f1 : List zV → zH d → zP d → Bool) (P : zP d) : zK d := (xild 1 (xpI 1 (xbin zaddR (xpI 5 (xcmpS tgeR rlGe rhS rlS rhLt (xaldV 0 (xpI 5 (xaldV 0 (xgfI 18 14 (xild 1 (xpI 0 (xcV 18 5 0 0 (zstr f_X2_failt) (xzret P)))))))) (xaldV 0 (xdup (xgfI 18 14 (xpI 1 (xbin zaddR (xpfI 18 14 (xaldV 0 (xild 1 (xpI 1 (xbin zaddR (xcV 18 2 0 0 (zstr f1) (xif0S teqR rlEq rhEq rlNe rhNe (xpI 0 (xzret P)) (xaldV 0 (xcV 18 1 0 0 (zstr (zenT 18 14 g_X2_next)) (xpI 41 (xcmpS teqR rlEq rhEq rlNe rhNe (xaldV 0 (xdup (xgfI 18 14 (cX2_readInBracketst_64 f1 P)))) (xaldV 0 (xaldV 0 (xgfI 18 14 (cX2_readInBracketst_55 f1 P)))))))))))))))))))))))))
set_option maxRecDepth 100000 in
set_option maxHeartbeats 4000000 in
theorem s_X2_readInBracketst {d : Nat} [zGh] (n1 : Nat) (f1 : List zV → zH d → zP d → Bool) (hf1 : zMet X_X2_readSum yX2_readSum n1 f1) (P : zP d) : zSim X_X2_readInBrackets (n1 + 3) P 0 (b_X2_readInBracketst f1 P) := by
  unfold b_X2_readInBracketst
  refine sm_iload_n (pc := 0) (n := 1) dX2_readInBrackets_0 rfl ?_
  refine sm_iconst (pc := 1) dX2_readInBrackets_1 zc_i_1 ?_
  refine sm_iaddR (pc := 2) dX2_readInBrackets_2 ?_
  refine sm_iconst (pc := 3) dX2_readInBrackets_3 zc_i_5 ?_
  refine sm_icmpS_lt (pc := 4) (tgt := 19) dX2_readInBrackets_4 (by decide) ?_ ?_
  · skip
    refine sm_aloadV_n (pc := 19) (n := 0) dX2_readInBrackets_19 rfl ?_
    refine sm_dup (pc := 20) dX2_readInBrackets_20 ?_
    refine gf_X2_60 (pc := 21) rfl dX2_readInBrackets_21 ?_
    refine sm_iconst (pc := 24) dX2_readInBrackets_24 zc_i_1 ?_
    refine sm_iaddR (pc := 25) dX2_readInBrackets_25 ?_
    refine pf_X2_60 (pc := 26) rfl dX2_readInBrackets_26 ?_
    refine sm_aloadV_n (pc := 29) (n := 0) dX2_readInBrackets_29 rfl ?_
    refine sm_iload_n (pc := 30) (n := 1) dX2_readInBrackets_30 rfl ?_
    refine sm_iconst (pc := 31) dX2_readInBrackets_31 zc_i_1 ?_
    refine sm_iaddR (pc := 32) dX2_readInBrackets_32 ?_
    refine sm_cV (pc := 33) (ci := 2) (n := 2) (mc := 0) (ms := 0) rfl (zMet_str hf1) (cr_X2_70 (X := X_X2_readInBrackets) (fr := n1 + 3) (frc := n1) (pc := 33) (mc := 0) (ms := 0) rfl (by omega) dX2_readInBrackets_33) ?_
    refine sm_ifS_ne (pc := 36) (tgt := 41) dX2_readInBrackets_36 (by decide) ?_ ?_
    · skip
      refine sm_aloadV_n (pc := 41) (n := 0) dX2_readInBrackets_41 rfl ?_
      refine sm_cV (pc := 42) (ci := 2) (n := 1) (mc := 0) (ms := 0) rfl (zMet_str (zMet_en (ci := 2) rfl rfl (by decide) mg_X2_next)) (cr_X2_74 (X := X_X2_readInBrackets) (fr := n1 + 3) (frc := 1) (pc := 42) (mc := 0) (ms := 0) rfl (by omega) dX2_readInBrackets_42) ?_
      refine sm_bipush (pc := 45) dX2_readInBrackets_45 zc_b_41 ?_
      refine sm_icmpS_eq (pc := 47) (tgt := 59) dX2_readInBrackets_47 (by decide) ?_ ?_
      · skip
        refine sm_aloadV_n (pc := 59) (n := 0) dX2_readInBrackets_59 rfl ?_
        refine sm_dup (pc := 60) dX2_readInBrackets_60 ?_
        refine gf_X2_60 (pc := 61) rfl dX2_readInBrackets_61 ?_
        exact scX2_readInBracketst_64 n1 f1 hf1 P
      · skip
        refine sm_aloadV_n (pc := 50) (n := 0) dX2_readInBrackets_50 rfl ?_
        refine sm_aloadV_n (pc := 51) (n := 0) dX2_readInBrackets_51 rfl ?_
        refine gf_X2_60 (pc := 52) rfl dX2_readInBrackets_52 ?_
        exact scX2_readInBracketst_55 n1 f1 hf1 P
    · skip
      refine sm_iconst (pc := 39) dX2_readInBrackets_39 zc_i_0 ?_
      exact sm_zreturn (pc := 40) dX2_readInBrackets_40 rfl
  · skip
    refine sm_aloadV_n (pc := 7) (n := 0) dX2_readInBrackets_7 rfl ?_
    refine sm_iconst (pc := 8) dX2_readInBrackets_8 zc_i_5 ?_
    refine sm_aloadV_n (pc := 9) (n := 0) dX2_readInBrackets_9 rfl ?_
    refine gf_X2_60 (pc := 10) rfl dX2_readInBrackets_10 ?_
    refine sm_iload_n (pc := 13) (n := 1) dX2_readInBrackets_13 rfl ?_
    refine sm_iconst (pc := 14) dX2_readInBrackets_14 zc_i_0 ?_
    refine sm_cV (pc := 15) (ci := 2) (n := 5) (mc := 0) (ms := 0) rfl (zMet_str m_X2_failt) (cr_X2_115 (X := X_X2_readInBrackets) (fr := n1 + 3) (frc := 2) (pc := 15) (mc := 0) (ms := 0) rfl (by omega) dX2_readInBrackets_15) ?_
    exact sm_zreturn (pc := 18) dX2_readInBrackets_18 rfl
noncomputable def f_X2_readInBracketst {d : Nat} (f1 : List zV → zH d → zP d → Bool) : List zV → zH d → zP d → Bool := zfn 2 (b_X2_readInBracketst f1 )
theorem m_X2_readInBracketst {d : Nat} (n1 : Nat) (f1 : List zV → zH d → zP d → Bool) (hf1 : zMet X_X2_readSum yX2_readSum n1 f1) : zMet (d := d) X_X2_readInBrackets yX2_readInBrackets (n1 + 3) (f_X2_readInBracketst f1 ) := zmet_mk (X := X_X2_readInBrackets) (by decide) rfl rfl (fun P => s_X2_readInBracketst n1 f1 hf1 P)

noncomputable def bX2_readFactort_201 {d : Nat} (f1 : List zV → zH d → zP d → Bool) (f2 : List zV → zH d → zP d → Bool) (f3 : List zV → zH d → zP d → Bool) (P : zP d) : zK d := (xaldV 0 (xaldV 0 (xgfI 18 14 (xcV 18 2 0 0 (zstr f_X2_refuset) (xzret P)))))
set_option maxRecDepth 100000 in
set_option maxHeartbeats 4000000 in
theorem sbX2_readFactort_201 {d : Nat} [zGh] (n1 n2 n3 : Nat) (f1 : List zV → zH d → zP d → Bool) (f2 : List zV → zH d → zP d → Bool) (f3 : List zV → zH d → zP d → Bool) (hf1 : zMet X_X2_readInBrackets yX2_readInBrackets n1 f1) (hf2 : zMet X_X2_readSlot yX2_readSlot n2 f2) (hf3 : zMet X_X2_takeCharacter yX2_takeCharacter n3 f3) (P : zP d) : zSim X_X2_readFactor (n1 + n2 + n3 + 4) P 201 (bX2_readFactort_201 f1 f2 f3 P) := by
  unfold bX2_readFactort_201
  refine sm_aloadV_n (pc := 201) (n := 0) dX2_readFactor_201 rfl ?_
  refine sm_aloadV_n (pc := 202) (n := 0) dX2_readFactor_202 rfl ?_
  refine gf_X2_60 (pc := 203) rfl dX2_readFactor_203 ?_
  refine sm_cV (pc := 206) (ci := 2) (n := 2) (mc := 0) (ms := 0) rfl (zMet_str m_X2_refuset) (cr_X2_78 (X := X_X2_readFactor) (fr := n1 + n2 + n3 + 4) (frc := 2) (pc := 206) (mc := 0) (ms := 0) rfl (by omega) dX2_readFactor_206) ?_
  exact sm_zreturn (pc := 209) dX2_readFactor_209 rfl
noncomputable def bX2_readFactort_195 {d : Nat} (f1 : List zV → zH d → zP d → Bool) (f2 : List zV → zH d → zP d → Bool) (f3 : List zV → zH d → zP d → Bool) (P : zP d) : zK d := (xaldV 0 (xild 1 (xcV 18 2 0 0 (zstr f1) (xzret P))))
set_option maxRecDepth 100000 in
set_option maxHeartbeats 4000000 in
theorem sbX2_readFactort_195 {d : Nat} [zGh] (n1 n2 n3 : Nat) (f1 : List zV → zH d → zP d → Bool) (f2 : List zV → zH d → zP d → Bool) (f3 : List zV → zH d → zP d → Bool) (hf1 : zMet X_X2_readInBrackets yX2_readInBrackets n1 f1) (hf2 : zMet X_X2_readSlot yX2_readSlot n2 f2) (hf3 : zMet X_X2_takeCharacter yX2_takeCharacter n3 f3) (P : zP d) : zSim X_X2_readFactor (n1 + n2 + n3 + 4) P 195 (bX2_readFactort_195 f1 f2 f3 P) := by
  unfold bX2_readFactort_195
  refine sm_aloadV_n (pc := 195) (n := 0) dX2_readFactor_195 rfl ?_
  refine sm_iload_n (pc := 196) (n := 1) dX2_readFactor_196 rfl ?_
  refine sm_cV (pc := 197) (ci := 2) (n := 2) (mc := 0) (ms := 0) rfl (zMet_str hf1) (cr_X2_150 (X := X_X2_readFactor) (fr := n1 + n2 + n3 + 4) (frc := n1) (pc := 197) (mc := 0) (ms := 0) rfl (by omega) dX2_readFactor_197) ?_
  exact sm_zreturn (pc := 200) dX2_readFactor_200 rfl
noncomputable def bX2_readFactort_149 {d : Nat} (f1 : List zV → zH d → zP d → Bool) (f2 : List zV → zH d → zP d → Bool) (f3 : List zV → zH d → zP d → Bool) (P : zP d) : zK d := (xzret P)
set_option maxRecDepth 100000 in
set_option maxHeartbeats 4000000 in
theorem sbX2_readFactort_149 {d : Nat} [zGh] (n1 n2 n3 : Nat) (f1 : List zV → zH d → zP d → Bool) (f2 : List zV → zH d → zP d → Bool) (f3 : List zV → zH d → zP d → Bool) (hf1 : zMet X_X2_readInBrackets yX2_readInBrackets n1 f1) (hf2 : zMet X_X2_readSlot yX2_readSlot n2 f2) (hf3 : zMet X_X2_takeCharacter yX2_takeCharacter n3 f3) (P : zP d) : zSim X_X2_readFactor (n1 + n2 + n3 + 4) P 149 (bX2_readFactort_149 f1 f2 f3 P) := by
  unfold bX2_readFactort_149
  exact sm_zreturn (pc := 149) dX2_readFactor_149 rfl
noncomputable def bX2_readFactort_148 {d : Nat} (f1 : List zV → zH d → zP d → Bool) (f2 : List zV → zH d → zP d → Bool) (f3 : List zV → zH d → zP d → Bool) (P : zP d) (j149 : zK d) : zK d := (xpI 0 j149)
set_option maxRecDepth 100000 in
set_option maxHeartbeats 4000000 in
theorem sbX2_readFactort_148 {d : Nat} [zGh] (n1 n2 n3 : Nat) (f1 : List zV → zH d → zP d → Bool) (f2 : List zV → zH d → zP d → Bool) (f3 : List zV → zH d → zP d → Bool) (hf1 : zMet X_X2_readInBrackets yX2_readInBrackets n1 f1) (hf2 : zMet X_X2_readSlot yX2_readSlot n2 f2) (hf3 : zMet X_X2_takeCharacter yX2_takeCharacter n3 f3) (P : zP d) (j149 : zK d) (hj149 : zSimJ 1 X_X2_readFactor (n1 + n2 + n3 + 4) P 149 j149) : zSim X_X2_readFactor (n1 + n2 + n3 + 4) P 148 (bX2_readFactort_148 f1 f2 f3 P j149) := by
  unfold bX2_readFactort_148
  refine sm_iconst (pc := 148) dX2_readFactor_148 zc_i_0 ?_
  exact hj149.use
noncomputable def bX2_readFactort_118 {d : Nat} (f1 : List zV → zH d → zP d → Bool) (f2 : List zV → zH d → zP d → Bool) (f3 : List zV → zH d → zP d → Bool) (P : zP d) : zK d := (xaldV 0 (xdup (xgfI 18 14 (xpI 1 (xbin zaddR (xpfI 18 14 (xaldV 0 (xcV 18 1 0 0 (zstr g_X2_readList) (xjoin (bX2_readFactort_149 f1 f2 f3 P) (fun j149 => (xjoin (bX2_readFactort_148 f1 f2 f3 P j149) (fun j148 => (xif0S teqR rlEq rhEq rlNe rhNe j148 (xaldV 0 (xild 1 (xild 2 (xcV 18 3 0 0 (zstr f3) (xif0S teqR rlEq rhEq rlNe rhNe j148 (xpI 1 j149)))))))))))))))))))
set_option maxRecDepth 100000 in
set_option maxHeartbeats 4000000 in
theorem sbX2_readFactort_118 {d : Nat} [zGh] (n1 n2 n3 : Nat) (f1 : List zV → zH d → zP d → Bool) (f2 : List zV → zH d → zP d → Bool) (f3 : List zV → zH d → zP d → Bool) (hf1 : zMet X_X2_readInBrackets yX2_readInBrackets n1 f1) (hf2 : zMet X_X2_readSlot yX2_readSlot n2 f2) (hf3 : zMet X_X2_takeCharacter yX2_takeCharacter n3 f3) (P : zP d) : zSim X_X2_readFactor (n1 + n2 + n3 + 4) P 118 (bX2_readFactort_118 f1 f2 f3 P) := by
  unfold bX2_readFactort_118
  refine sm_aloadV_n (pc := 118) (n := 0) dX2_readFactor_118 rfl ?_
  refine sm_dup (pc := 119) dX2_readFactor_119 ?_
  refine gf_X2_60 (pc := 120) rfl dX2_readFactor_120 ?_
  refine sm_iconst (pc := 123) dX2_readFactor_123 zc_i_1 ?_
  refine sm_iaddR (pc := 124) dX2_readFactor_124 ?_
  refine pf_X2_60 (pc := 125) rfl dX2_readFactor_125 ?_
  refine sm_aloadV_n (pc := 128) (n := 0) dX2_readFactor_128 rfl ?_
  refine sm_cV (pc := 129) (ci := 2) (n := 1) (mc := 0) (ms := 0) rfl (zMet_str mg_X2_readList) (cr_X2_132 (X := X_X2_readFactor) (fr := n1 + n2 + n3 + 4) (frc := 3) (pc := 129) (mc := 0) (ms := 0) rfl (by omega) dX2_readFactor_129) ?_
  refine sm_joinJ (pc := 132) (pc' := 149) (j := 1) (fun G0 hG0 => @sbX2_readFactort_149 d G0 n1 n2 n3 f1 f2 f3 hf1 hf2 hf3 P) (fun j149 hj149 => ?_)
  refine sm_joinJ (pc := 132) (pc' := 148) (j := 1) (fun G0 hG0 => @sbX2_readFactort_148 d G0 n1 n2 n3 f1 f2 f3 hf1 hf2 hf3 P j149 (hj149.mv hG0 (by decide))) (fun j148 hj148 => ?_)
  refine sm_ifS_eq (pc := 132) (tgt := 148) dX2_readFactor_132 (by decide) ?_ ?_
  · skip
    exact hj148.use
  · skip
    refine sm_aloadV_n (pc := 135) (n := 0) dX2_readFactor_135 rfl ?_
    refine sm_iload_n (pc := 136) (n := 1) dX2_readFactor_136 rfl ?_
    refine sm_iload_n (pc := 137) (n := 2) dX2_readFactor_137 rfl ?_
    refine sm_cV (pc := 138) (ci := 2) (n := 3) (mc := 0) (ms := 0) rfl (zMet_str hf3) (cr_X2_136 (X := X_X2_readFactor) (fr := n1 + n2 + n3 + 4) (frc := n3) (pc := 138) (mc := 0) (ms := 0) rfl (by omega) dX2_readFactor_138) ?_
    refine sm_ifS_eq (pc := 141) (tgt := 148) dX2_readFactor_141 (by decide) ?_ ?_
    · skip
      exact hj148.use
    · skip
      refine sm_iconst (pc := 144) dX2_readFactor_144 zc_i_1 ?_
      refine sm_goto (pc := 145) (tgt := 149) dX2_readFactor_145 (by decide) ?_
      exact hj149.use
noncomputable def bX2_readFactort_149_2 {d : Nat} (f1 : List zV → zH d → zP d → Bool) (f2 : List zV → zH d → zP d → Bool) (f3 : List zV → zH d → zP d → Bool) (P : zP d) : zK d := (xzret P)
set_option maxRecDepth 100000 in
set_option maxHeartbeats 4000000 in
theorem sbX2_readFactort_149_2 {d : Nat} [zGh] (n1 n2 n3 : Nat) (f1 : List zV → zH d → zP d → Bool) (f2 : List zV → zH d → zP d → Bool) (f3 : List zV → zH d → zP d → Bool) (hf1 : zMet X_X2_readInBrackets yX2_readInBrackets n1 f1) (hf2 : zMet X_X2_readSlot yX2_readSlot n2 f2) (hf3 : zMet X_X2_takeCharacter yX2_takeCharacter n3 f3) (P : zP d) : zSim X_X2_readFactor (n1 + n2 + n3 + 4) P 149 (bX2_readFactort_149_2 f1 f2 f3 P) := by
  unfold bX2_readFactort_149_2
  exact sm_zreturn (pc := 149) dX2_readFactor_149 rfl
noncomputable def bX2_readFactort_148_2 {d : Nat} (f1 : List zV → zH d → zP d → Bool) (f2 : List zV → zH d → zP d → Bool) (f3 : List zV → zH d → zP d → Bool) (P : zP d) (j149 : zK d) : zK d := (xpI 0 j149)
set_option maxRecDepth 100000 in
set_option maxHeartbeats 4000000 in
theorem sbX2_readFactort_148_2 {d : Nat} [zGh] (n1 n2 n3 : Nat) (f1 : List zV → zH d → zP d → Bool) (f2 : List zV → zH d → zP d → Bool) (f3 : List zV → zH d → zP d → Bool) (hf1 : zMet X_X2_readInBrackets yX2_readInBrackets n1 f1) (hf2 : zMet X_X2_readSlot yX2_readSlot n2 f2) (hf3 : zMet X_X2_takeCharacter yX2_takeCharacter n3 f3) (P : zP d) (j149 : zK d) (hj149 : zSimJ 1 X_X2_readFactor (n1 + n2 + n3 + 4) P 149 j149) : zSim X_X2_readFactor (n1 + n2 + n3 + 4) P 148 (bX2_readFactort_148_2 f1 f2 f3 P j149) := by
  unfold bX2_readFactort_148_2
  refine sm_iconst (pc := 148) dX2_readFactor_148 zc_i_0 ?_
  exact hj149.use
noncomputable def bX2_readFactort_118_2 {d : Nat} (f1 : List zV → zH d → zP d → Bool) (f2 : List zV → zH d → zP d → Bool) (f3 : List zV → zH d → zP d → Bool) (P : zP d) : zK d := (xaldV 0 (xdup (xgfI 18 14 (xpI 1 (xbin zaddR (xpfI 18 14 (xaldV 0 (xcV 18 1 0 0 (zstr g_X2_readList) (xjoin (bX2_readFactort_149_2 f1 f2 f3 P) (fun j149 => (xjoin (bX2_readFactort_148_2 f1 f2 f3 P j149) (fun j148 => (xif0S teqR rlEq rhEq rlNe rhNe j148 (xaldV 0 (xild 1 (xild 2 (xcV 18 3 0 0 (zstr f3) (xif0S teqR rlEq rhEq rlNe rhNe j148 (xpI 1 j149)))))))))))))))))))
set_option maxRecDepth 100000 in
set_option maxHeartbeats 4000000 in
theorem sbX2_readFactort_118_2 {d : Nat} [zGh] (n1 n2 n3 : Nat) (f1 : List zV → zH d → zP d → Bool) (f2 : List zV → zH d → zP d → Bool) (f3 : List zV → zH d → zP d → Bool) (hf1 : zMet X_X2_readInBrackets yX2_readInBrackets n1 f1) (hf2 : zMet X_X2_readSlot yX2_readSlot n2 f2) (hf3 : zMet X_X2_takeCharacter yX2_takeCharacter n3 f3) (P : zP d) : zSim X_X2_readFactor (n1 + n2 + n3 + 4) P 118 (bX2_readFactort_118_2 f1 f2 f3 P) := by
  unfold bX2_readFactort_118_2
  refine sm_aloadV_n (pc := 118) (n := 0) dX2_readFactor_118 rfl ?_
  refine sm_dup (pc := 119) dX2_readFactor_119 ?_
  refine gf_X2_60 (pc := 120) rfl dX2_readFactor_120 ?_
  refine sm_iconst (pc := 123) dX2_readFactor_123 zc_i_1 ?_
  refine sm_iaddR (pc := 124) dX2_readFactor_124 ?_
  refine pf_X2_60 (pc := 125) rfl dX2_readFactor_125 ?_
  refine sm_aloadV_n (pc := 128) (n := 0) dX2_readFactor_128 rfl ?_
  refine sm_cV (pc := 129) (ci := 2) (n := 1) (mc := 0) (ms := 0) rfl (zMet_str mg_X2_readList) (cr_X2_132 (X := X_X2_readFactor) (fr := n1 + n2 + n3 + 4) (frc := 3) (pc := 129) (mc := 0) (ms := 0) rfl (by omega) dX2_readFactor_129) ?_
  refine sm_joinJ (pc := 132) (pc' := 149) (j := 1) (fun G0 hG0 => @sbX2_readFactort_149_2 d G0 n1 n2 n3 f1 f2 f3 hf1 hf2 hf3 P) (fun j149 hj149 => ?_)
  refine sm_joinJ (pc := 132) (pc' := 148) (j := 1) (fun G0 hG0 => @sbX2_readFactort_148_2 d G0 n1 n2 n3 f1 f2 f3 hf1 hf2 hf3 P j149 (hj149.mv hG0 (by decide))) (fun j148 hj148 => ?_)
  refine sm_ifS_eq (pc := 132) (tgt := 148) dX2_readFactor_132 (by decide) ?_ ?_
  · skip
    exact hj148.use
  · skip
    refine sm_aloadV_n (pc := 135) (n := 0) dX2_readFactor_135 rfl ?_
    refine sm_iload_n (pc := 136) (n := 1) dX2_readFactor_136 rfl ?_
    refine sm_iload_n (pc := 137) (n := 2) dX2_readFactor_137 rfl ?_
    refine sm_cV (pc := 138) (ci := 2) (n := 3) (mc := 0) (ms := 0) rfl (zMet_str hf3) (cr_X2_136 (X := X_X2_readFactor) (fr := n1 + n2 + n3 + 4) (frc := n3) (pc := 138) (mc := 0) (ms := 0) rfl (by omega) dX2_readFactor_138) ?_
    refine sm_ifS_eq (pc := 141) (tgt := 148) dX2_readFactor_141 (by decide) ?_ ?_
    · skip
      exact hj148.use
    · skip
      refine sm_iconst (pc := 144) dX2_readFactor_144 zc_i_1 ?_
      refine sm_goto (pc := 145) (tgt := 149) dX2_readFactor_145 (by decide) ?_
      exact hj149.use
noncomputable def bX2_readFactort_149_3 {d : Nat} (f1 : List zV → zH d → zP d → Bool) (f2 : List zV → zH d → zP d → Bool) (f3 : List zV → zH d → zP d → Bool) (P : zP d) : zK d := (xzret P)
set_option maxRecDepth 100000 in
set_option maxHeartbeats 4000000 in
theorem sbX2_readFactort_149_3 {d : Nat} [zGh] (n1 n2 n3 : Nat) (f1 : List zV → zH d → zP d → Bool) (f2 : List zV → zH d → zP d → Bool) (f3 : List zV → zH d → zP d → Bool) (hf1 : zMet X_X2_readInBrackets yX2_readInBrackets n1 f1) (hf2 : zMet X_X2_readSlot yX2_readSlot n2 f2) (hf3 : zMet X_X2_takeCharacter yX2_takeCharacter n3 f3) (P : zP d) : zSim X_X2_readFactor (n1 + n2 + n3 + 4) P 149 (bX2_readFactort_149_3 f1 f2 f3 P) := by
  unfold bX2_readFactort_149_3
  exact sm_zreturn (pc := 149) dX2_readFactor_149 rfl
noncomputable def bX2_readFactort_148_3 {d : Nat} (f1 : List zV → zH d → zP d → Bool) (f2 : List zV → zH d → zP d → Bool) (f3 : List zV → zH d → zP d → Bool) (P : zP d) (j149 : zK d) : zK d := (xpI 0 j149)
set_option maxRecDepth 100000 in
set_option maxHeartbeats 4000000 in
theorem sbX2_readFactort_148_3 {d : Nat} [zGh] (n1 n2 n3 : Nat) (f1 : List zV → zH d → zP d → Bool) (f2 : List zV → zH d → zP d → Bool) (f3 : List zV → zH d → zP d → Bool) (hf1 : zMet X_X2_readInBrackets yX2_readInBrackets n1 f1) (hf2 : zMet X_X2_readSlot yX2_readSlot n2 f2) (hf3 : zMet X_X2_takeCharacter yX2_takeCharacter n3 f3) (P : zP d) (j149 : zK d) (hj149 : zSimJ 1 X_X2_readFactor (n1 + n2 + n3 + 4) P 149 j149) : zSim X_X2_readFactor (n1 + n2 + n3 + 4) P 148 (bX2_readFactort_148_3 f1 f2 f3 P j149) := by
  unfold bX2_readFactort_148_3
  refine sm_iconst (pc := 148) dX2_readFactor_148 zc_i_0 ?_
  exact hj149.use
noncomputable def bX2_readFactort_118_3 {d : Nat} (f1 : List zV → zH d → zP d → Bool) (f2 : List zV → zH d → zP d → Bool) (f3 : List zV → zH d → zP d → Bool) (P : zP d) : zK d := (xaldV 0 (xdup (xgfI 18 14 (xpI 1 (xbin zaddR (xpfI 18 14 (xaldV 0 (xcV 18 1 0 0 (zstr g_X2_readList) (xjoin (bX2_readFactort_149_3 f1 f2 f3 P) (fun j149 => (xjoin (bX2_readFactort_148_3 f1 f2 f3 P j149) (fun j148 => (xif0S teqR rlEq rhEq rlNe rhNe j148 (xaldV 0 (xild 1 (xild 2 (xcV 18 3 0 0 (zstr f3) (xif0S teqR rlEq rhEq rlNe rhNe j148 (xpI 1 j149)))))))))))))))))))
set_option maxRecDepth 100000 in
set_option maxHeartbeats 4000000 in
theorem sbX2_readFactort_118_3 {d : Nat} [zGh] (n1 n2 n3 : Nat) (f1 : List zV → zH d → zP d → Bool) (f2 : List zV → zH d → zP d → Bool) (f3 : List zV → zH d → zP d → Bool) (hf1 : zMet X_X2_readInBrackets yX2_readInBrackets n1 f1) (hf2 : zMet X_X2_readSlot yX2_readSlot n2 f2) (hf3 : zMet X_X2_takeCharacter yX2_takeCharacter n3 f3) (P : zP d) : zSim X_X2_readFactor (n1 + n2 + n3 + 4) P 118 (bX2_readFactort_118_3 f1 f2 f3 P) := by
  unfold bX2_readFactort_118_3
  refine sm_aloadV_n (pc := 118) (n := 0) dX2_readFactor_118 rfl ?_
  refine sm_dup (pc := 119) dX2_readFactor_119 ?_
  refine gf_X2_60 (pc := 120) rfl dX2_readFactor_120 ?_
  refine sm_iconst (pc := 123) dX2_readFactor_123 zc_i_1 ?_
  refine sm_iaddR (pc := 124) dX2_readFactor_124 ?_
  refine pf_X2_60 (pc := 125) rfl dX2_readFactor_125 ?_
  refine sm_aloadV_n (pc := 128) (n := 0) dX2_readFactor_128 rfl ?_
  refine sm_cV (pc := 129) (ci := 2) (n := 1) (mc := 0) (ms := 0) rfl (zMet_str mg_X2_readList) (cr_X2_132 (X := X_X2_readFactor) (fr := n1 + n2 + n3 + 4) (frc := 3) (pc := 129) (mc := 0) (ms := 0) rfl (by omega) dX2_readFactor_129) ?_
  refine sm_joinJ (pc := 132) (pc' := 149) (j := 1) (fun G0 hG0 => @sbX2_readFactort_149_3 d G0 n1 n2 n3 f1 f2 f3 hf1 hf2 hf3 P) (fun j149 hj149 => ?_)
  refine sm_joinJ (pc := 132) (pc' := 148) (j := 1) (fun G0 hG0 => @sbX2_readFactort_148_3 d G0 n1 n2 n3 f1 f2 f3 hf1 hf2 hf3 P j149 (hj149.mv hG0 (by decide))) (fun j148 hj148 => ?_)
  refine sm_ifS_eq (pc := 132) (tgt := 148) dX2_readFactor_132 (by decide) ?_ ?_
  · skip
    exact hj148.use
  · skip
    refine sm_aloadV_n (pc := 135) (n := 0) dX2_readFactor_135 rfl ?_
    refine sm_iload_n (pc := 136) (n := 1) dX2_readFactor_136 rfl ?_
    refine sm_iload_n (pc := 137) (n := 2) dX2_readFactor_137 rfl ?_
    refine sm_cV (pc := 138) (ci := 2) (n := 3) (mc := 0) (ms := 0) rfl (zMet_str hf3) (cr_X2_136 (X := X_X2_readFactor) (fr := n1 + n2 + n3 + 4) (frc := n3) (pc := 138) (mc := 0) (ms := 0) rfl (by omega) dX2_readFactor_138) ?_
    refine sm_ifS_eq (pc := 141) (tgt := 148) dX2_readFactor_141 (by decide) ?_ ?_
    · skip
      exact hj148.use
    · skip
      refine sm_iconst (pc := 144) dX2_readFactor_144 zc_i_1 ?_
      refine sm_goto (pc := 145) (tgt := 149) dX2_readFactor_145 (by decide) ?_
      exact hj149.use
noncomputable def bX2_readFactort_150 {d : Nat} (f1 : List zV → zH d → zP d → Bool) (f2 : List zV → zH d → zP d → Bool) (f3 : List zV → zH d → zP d → Bool) (P : zP d) : zK d := (xaldV 0 (xdup (xgfI 18 14 (xpI 1 (xbin zaddR (xpfI 18 14 (xaldV 0 (xaldV 0 (xgfR 18 12 (xgfR 23 7 (xaldV 0 (xgfR 18 3 (xild 1 (xaaT (xcV 18 3 0 0 (zstr f_X2_copyt) (xpI 1 (xzret P)))))))))))))))))
set_option maxRecDepth 100000 in
set_option maxHeartbeats 4000000 in
theorem sbX2_readFactort_150 {d : Nat} [zGh] (n1 n2 n3 : Nat) (f1 : List zV → zH d → zP d → Bool) (f2 : List zV → zH d → zP d → Bool) (f3 : List zV → zH d → zP d → Bool) (hf1 : zMet X_X2_readInBrackets yX2_readInBrackets n1 f1) (hf2 : zMet X_X2_readSlot yX2_readSlot n2 f2) (hf3 : zMet X_X2_takeCharacter yX2_takeCharacter n3 f3) (P : zP d) : zSim X_X2_readFactor (n1 + n2 + n3 + 4) P 150 (bX2_readFactort_150 f1 f2 f3 P) := by
  unfold bX2_readFactort_150
  refine sm_aloadV_n (pc := 150) (n := 0) dX2_readFactor_150 rfl ?_
  refine sm_dup (pc := 151) dX2_readFactor_151 ?_
  refine gf_X2_60 (pc := 152) rfl dX2_readFactor_152 ?_
  refine sm_iconst (pc := 155) dX2_readFactor_155 zc_i_1 ?_
  refine sm_iaddR (pc := 156) dX2_readFactor_156 ?_
  refine pf_X2_60 (pc := 157) rfl dX2_readFactor_157 ?_
  refine sm_aloadV_n (pc := 160) (n := 0) dX2_readFactor_160 rfl ?_
  refine sm_aloadV_n (pc := 161) (n := 0) dX2_readFactor_161 rfl ?_
  refine gf_X2_49 (pc := 162) rfl dX2_readFactor_162 ?_
  refine gf_X2_140 (pc := 165) rfl dX2_readFactor_165 ?_
  refine sm_aloadV_n (pc := 168) (n := 0) dX2_readFactor_168 rfl ?_
  refine gf_X2_26 (pc := 169) rfl dX2_readFactor_169 ?_
  refine sm_iload_n (pc := 172) (n := 1) dX2_readFactor_172 rfl ?_
  refine sm_aaloadT (pc := 173) dX2_readFactor_173 ?_
  refine sm_cV (pc := 174) (ci := 2) (n := 3) (mc := 0) (ms := 0) rfl (zMet_str m_X2_copyt) (cr_X2_143 (X := X_X2_readFactor) (fr := n1 + n2 + n3 + 4) (frc := 1) (pc := 174) (mc := 0) (ms := 0) rfl (by omega) dX2_readFactor_174) ?_
  refine sm_iconst (pc := 177) dX2_readFactor_177 zc_i_1 ?_
  exact sm_zreturn (pc := 178) dX2_readFactor_178 rfl
noncomputable def bX2_readFactort_179 {d : Nat} (f1 : List zV → zH d → zP d → Bool) (f2 : List zV → zH d → zP d → Bool) (f3 : List zV → zH d → zP d → Bool) (P : zP d) : zK d := (xaldV 0 (xdup (xgfI 18 14 (xpI 1 (xbin zaddR (xpfI 18 14 (xaldV 0 (xild 1 (xcV 18 2 0 0 (zstr f2) (xzret P))))))))))
set_option maxRecDepth 100000 in
set_option maxHeartbeats 4000000 in
theorem sbX2_readFactort_179 {d : Nat} [zGh] (n1 n2 n3 : Nat) (f1 : List zV → zH d → zP d → Bool) (f2 : List zV → zH d → zP d → Bool) (f3 : List zV → zH d → zP d → Bool) (hf1 : zMet X_X2_readInBrackets yX2_readInBrackets n1 f1) (hf2 : zMet X_X2_readSlot yX2_readSlot n2 f2) (hf3 : zMet X_X2_takeCharacter yX2_takeCharacter n3 f3) (P : zP d) : zSim X_X2_readFactor (n1 + n2 + n3 + 4) P 179 (bX2_readFactort_179 f1 f2 f3 P) := by
  unfold bX2_readFactort_179
  refine sm_aloadV_n (pc := 179) (n := 0) dX2_readFactor_179 rfl ?_
  refine sm_dup (pc := 180) dX2_readFactor_180 ?_
  refine gf_X2_60 (pc := 181) rfl dX2_readFactor_181 ?_
  refine sm_iconst (pc := 184) dX2_readFactor_184 zc_i_1 ?_
  refine sm_iaddR (pc := 185) dX2_readFactor_185 ?_
  refine pf_X2_60 (pc := 186) rfl dX2_readFactor_186 ?_
  refine sm_aloadV_n (pc := 189) (n := 0) dX2_readFactor_189 rfl ?_
  refine sm_iload_n (pc := 190) (n := 1) dX2_readFactor_190 rfl ?_
  refine sm_cV (pc := 191) (ci := 2) (n := 2) (mc := 0) (ms := 0) rfl (zMet_str hf2) (cr_X2_147 (X := X_X2_readFactor) (fr := n1 + n2 + n3 + 4) (frc := n2) (pc := 191) (mc := 0) (ms := 0) rfl (by omega) dX2_readFactor_191) ?_
  exact sm_zreturn (pc := 194) dX2_readFactor_194 rfl
noncomputable def bX2_readFactort_117 {d : Nat} (f1 : List zV → zH d → zP d → Bool) (f2 : List zV → zH d → zP d → Bool) (f3 : List zV → zH d → zP d → Bool) (P : zP d) : zK d := (xzret P)
set_option maxRecDepth 100000 in
set_option maxHeartbeats 4000000 in
theorem sbX2_readFactort_117 {d : Nat} [zGh] (n1 n2 n3 : Nat) (f1 : List zV → zH d → zP d → Bool) (f2 : List zV → zH d → zP d → Bool) (f3 : List zV → zH d → zP d → Bool) (hf1 : zMet X_X2_readInBrackets yX2_readInBrackets n1 f1) (hf2 : zMet X_X2_readSlot yX2_readSlot n2 f2) (hf3 : zMet X_X2_takeCharacter yX2_takeCharacter n3 f3) (P : zP d) : zSim X_X2_readFactor (n1 + n2 + n3 + 4) P 117 (bX2_readFactort_117 f1 f2 f3 P) := by
  unfold bX2_readFactort_117
  exact sm_zreturn (pc := 117) dX2_readFactor_117 rfl
noncomputable def bX2_readFactort_116 {d : Nat} (f1 : List zV → zH d → zP d → Bool) (f2 : List zV → zH d → zP d → Bool) (f3 : List zV → zH d → zP d → Bool) (P : zP d) (j117 : zK d) : zK d := (xpI 0 j117)
set_option maxRecDepth 100000 in
set_option maxHeartbeats 4000000 in
theorem sbX2_readFactort_116 {d : Nat} [zGh] (n1 n2 n3 : Nat) (f1 : List zV → zH d → zP d → Bool) (f2 : List zV → zH d → zP d → Bool) (f3 : List zV → zH d → zP d → Bool) (hf1 : zMet X_X2_readInBrackets yX2_readInBrackets n1 f1) (hf2 : zMet X_X2_readSlot yX2_readSlot n2 f2) (hf3 : zMet X_X2_takeCharacter yX2_takeCharacter n3 f3) (P : zP d) (j117 : zK d) (hj117 : zSimJ 1 X_X2_readFactor (n1 + n2 + n3 + 4) P 117 j117) : zSim X_X2_readFactor (n1 + n2 + n3 + 4) P 116 (bX2_readFactort_116 f1 f2 f3 P j117) := by
  unfold bX2_readFactort_116
  refine sm_iconst (pc := 116) dX2_readFactor_116 zc_i_0 ?_
  exact hj117.use
noncomputable def bX2_readFactort_96 {d : Nat} (f1 : List zV → zH d → zP d → Bool) (f2 : List zV → zH d → zP d → Bool) (f3 : List zV → zH d → zP d → Bool) (P : zP d) : zK d := (xaldV 0 (xcV 18 1 0 0 (zstr g_X2_readList) (xjoin (bX2_readFactort_117 f1 f2 f3 P) (fun j117 => (xjoin (bX2_readFactort_116 f1 f2 f3 P j117) (fun j116 => (xif0S teqR rlEq rhEq rlNe rhNe j116 (xaldV 0 (xild 1 (xild 2 (xcV 18 3 0 0 (zstr f3) (xif0S teqR rlEq rhEq rlNe rhNe j116 (xpI 1 j117)))))))))))))
set_option maxRecDepth 100000 in
set_option maxHeartbeats 4000000 in
theorem sbX2_readFactort_96 {d : Nat} [zGh] (n1 n2 n3 : Nat) (f1 : List zV → zH d → zP d → Bool) (f2 : List zV → zH d → zP d → Bool) (f3 : List zV → zH d → zP d → Bool) (hf1 : zMet X_X2_readInBrackets yX2_readInBrackets n1 f1) (hf2 : zMet X_X2_readSlot yX2_readSlot n2 f2) (hf3 : zMet X_X2_takeCharacter yX2_takeCharacter n3 f3) (P : zP d) : zSim X_X2_readFactor (n1 + n2 + n3 + 4) P 96 (bX2_readFactort_96 f1 f2 f3 P) := by
  unfold bX2_readFactort_96
  refine sm_aloadV_n (pc := 96) (n := 0) dX2_readFactor_96 rfl ?_
  refine sm_cV (pc := 97) (ci := 2) (n := 1) (mc := 0) (ms := 0) rfl (zMet_str mg_X2_readList) (cr_X2_132 (X := X_X2_readFactor) (fr := n1 + n2 + n3 + 4) (frc := 3) (pc := 97) (mc := 0) (ms := 0) rfl (by omega) dX2_readFactor_97) ?_
  refine sm_joinJ (pc := 100) (pc' := 117) (j := 1) (fun G0 hG0 => @sbX2_readFactort_117 d G0 n1 n2 n3 f1 f2 f3 hf1 hf2 hf3 P) (fun j117 hj117 => ?_)
  refine sm_joinJ (pc := 100) (pc' := 116) (j := 1) (fun G0 hG0 => @sbX2_readFactort_116 d G0 n1 n2 n3 f1 f2 f3 hf1 hf2 hf3 P j117 (hj117.mv hG0 (by decide))) (fun j116 hj116 => ?_)
  refine sm_ifS_eq (pc := 100) (tgt := 116) dX2_readFactor_100 (by decide) ?_ ?_
  · skip
    exact hj116.use
  · skip
    refine sm_aloadV_n (pc := 103) (n := 0) dX2_readFactor_103 rfl ?_
    refine sm_iload_n (pc := 104) (n := 1) dX2_readFactor_104 rfl ?_
    refine sm_iload_n (pc := 105) (n := 2) dX2_readFactor_105 rfl ?_
    refine sm_cV (pc := 106) (ci := 2) (n := 3) (mc := 0) (ms := 0) rfl (zMet_str hf3) (cr_X2_136 (X := X_X2_readFactor) (fr := n1 + n2 + n3 + 4) (frc := n3) (pc := 106) (mc := 0) (ms := 0) rfl (by omega) dX2_readFactor_106) ?_
    refine sm_ifS_eq (pc := 109) (tgt := 116) dX2_readFactor_109 (by decide) ?_ ?_
    · skip
      exact hj116.use
    · skip
      refine sm_iconst (pc := 112) dX2_readFactor_112 zc_i_1 ?_
      refine sm_goto (pc := 113) (tgt := 117) dX2_readFactor_113 (by decide) ?_
      exact hj117.use
noncomputable def b_X2_readFactort {d : Nat} (f1 : List zV → zH d → zP d → Bool) (f2 : List zV → zH d → zP d → Bool) (f3 : List zV → zH d → zP d → Bool) (P : zP d) : zK d := (xaldV 0 (xcV 18 1 0 0 (zstr (zenT 18 14 g_X2_next)) (xist 2 (xaldV 0 (xgfR 18 6 (xild 1 (xaldV 0 (xgfI 18 14 (xasQ 0 (fun v => v) (xild 2 (xcS 1 0 0 (zstr f_X2_isDigitt) (xif0S teqR rlEq rhEq rlNe rhNe (xild 2 (xlswV [(40, (bX2_readFactort_195 f1 f2 f3 P)), (68, (bX2_readFactort_118 f1 f2 f3 P)), (77, (bX2_readFactort_118_2 f1 f2 f3 P)), (80, (bX2_readFactort_118_3 f1 f2 f3 P)), (83, (bX2_readFactort_150 f1 f2 f3 P)), (88, (bX2_readFactort_179 f1 f2 f3 P)), (91, (bX2_readFactort_96 f1 f2 f3 P))] (bX2_readFactort_201 f1 f2 f3 P))) (xaldV 0 (xild 1 (xcV 18 2 0 0 (zstr f_X2_readConstantt) (xzret P))))))))))))))))
set_option maxRecDepth 100000 in
set_option maxHeartbeats 4000000 in
theorem s_X2_readFactort {d : Nat} [zGh] (n1 n2 n3 : Nat) (f1 : List zV → zH d → zP d → Bool) (f2 : List zV → zH d → zP d → Bool) (f3 : List zV → zH d → zP d → Bool) (hf1 : zMet X_X2_readInBrackets yX2_readInBrackets n1 f1) (hf2 : zMet X_X2_readSlot yX2_readSlot n2 f2) (hf3 : zMet X_X2_takeCharacter yX2_takeCharacter n3 f3) (P : zP d) : zSim X_X2_readFactor (n1 + n2 + n3 + 4) P 0 (b_X2_readFactort f1 f2 f3 P) := by
  unfold b_X2_readFactort
  refine sm_aloadV_n (pc := 0) (n := 0) dX2_readFactor_0 rfl ?_
  refine sm_cV (pc := 1) (ci := 2) (n := 1) (mc := 0) (ms := 0) rfl (zMet_str (zMet_en (ci := 2) rfl rfl (by decide) mg_X2_next)) (cr_X2_74 (X := X_X2_readFactor) (fr := n1 + n2 + n3 + 4) (frc := 1) (pc := 1) (mc := 0) (ms := 0) rfl (by omega) dX2_readFactor_1) ?_
  refine sm_istore_n (pc := 4) (n := 2) dX2_readFactor_4 rfl ?_
  refine sm_aloadV_n (pc := 5) (n := 0) dX2_readFactor_5 rfl ?_
  refine gf_X2_36 (pc := 6) rfl dX2_readFactor_6 ?_
  refine sm_iload_n (pc := 9) (n := 1) dX2_readFactor_9 rfl ?_
  refine sm_aloadV_n (pc := 10) (n := 0) dX2_readFactor_10 rfl ?_
  refine gf_X2_60 (pc := 11) rfl dX2_readFactor_11 ?_
  refine sm_iastoreQ (pc := 14) dX2_readFactor_14 ?_
  refine sm_iload_n (pc := 15) (n := 2) dX2_readFactor_15 rfl ?_
  refine sm_cS (pc := 16) (n := 1) (mc := 0) (ms := 0) (zMet_str m_X2_isDigitt) (cr_X2_126 (X := X_X2_readFactor) (fr := n1 + n2 + n3 + 4) (frc := 1) (pc := 16) (mc := 0) (ms := 0) rfl (by omega) dX2_readFactor_16) ?_
  refine sm_ifS_eq (pc := 19) (tgt := 28) dX2_readFactor_19 (by decide) ?_ ?_
  · skip
    refine sm_iload_n (pc := 28) (n := 2) dX2_readFactor_28 rfl ?_
    refine sm_lswV (pc := 29) (tdf := 201) [(40, 195), (68, 118), (77, 118), (80, 118), (83, 150), (88, 179), (91, 96)] dX2_readFactor_29 (by decide +kernel) (by decide +kernel) rfl (by decide) (sbX2_readFactort_201 n1 n2 n3 f1 f2 f3 hf1 hf2 hf3 P) (fun i n t k ht hk => ?_)
    match i, ht, hk with
    | 0, ht, hk => cases ht; cases hk; exact sbX2_readFactort_195 n1 n2 n3 f1 f2 f3 hf1 hf2 hf3 P
    | 1, ht, hk => cases ht; cases hk; exact sbX2_readFactort_118 n1 n2 n3 f1 f2 f3 hf1 hf2 hf3 P
    | 2, ht, hk => cases ht; cases hk; exact sbX2_readFactort_118_2 n1 n2 n3 f1 f2 f3 hf1 hf2 hf3 P
    | 3, ht, hk => cases ht; cases hk; exact sbX2_readFactort_118_3 n1 n2 n3 f1 f2 f3 hf1 hf2 hf3 P
    | 4, ht, hk => cases ht; cases hk; exact sbX2_readFactort_150 n1 n2 n3 f1 f2 f3 hf1 hf2 hf3 P
    | 5, ht, hk => cases ht; cases hk; exact sbX2_readFactort_179 n1 n2 n3 f1 f2 f3 hf1 hf2 hf3 P
    | 6, ht, hk => cases ht; cases hk; exact sbX2_readFactort_96 n1 n2 n3 f1 f2 f3 hf1 hf2 hf3 P
    | i + 7, ht, hk => cases ht
  · skip
    refine sm_aloadV_n (pc := 22) (n := 0) dX2_readFactor_22 rfl ?_
    refine sm_iload_n (pc := 23) (n := 1) dX2_readFactor_23 rfl ?_
    refine sm_cV (pc := 24) (ci := 2) (n := 2) (mc := 0) (ms := 0) rfl (zMet_str m_X2_readConstantt) (cr_X2_129 (X := X_X2_readFactor) (fr := n1 + n2 + n3 + 4) (frc := 3) (pc := 24) (mc := 0) (ms := 0) rfl (by omega) dX2_readFactor_24) ?_
    exact sm_zreturn (pc := 27) dX2_readFactor_27 rfl
noncomputable def f_X2_readFactort {d : Nat} (f1 : List zV → zH d → zP d → Bool) (f2 : List zV → zH d → zP d → Bool) (f3 : List zV → zH d → zP d → Bool) : List zV → zH d → zP d → Bool := zfn 3 (b_X2_readFactort f1 f2 f3 )
theorem m_X2_readFactort {d : Nat} (n1 n2 n3 : Nat) (f1 : List zV → zH d → zP d → Bool) (f2 : List zV → zH d → zP d → Bool) (f3 : List zV → zH d → zP d → Bool) (hf1 : zMet X_X2_readInBrackets yX2_readInBrackets n1 f1) (hf2 : zMet X_X2_readSlot yX2_readSlot n2 f2) (hf3 : zMet X_X2_takeCharacter yX2_takeCharacter n3 f3) : zMet (d := d) X_X2_readFactor yX2_readFactor (n1 + n2 + n3 + 4) (f_X2_readFactort f1 f2 f3 ) := zmet_mk (X := X_X2_readFactor) (by decide) rfl rfl (fun P => s_X2_readFactort n1 n2 n3 f1 f2 f3 hf1 hf2 hf3 P)

noncomputable def cX2_readTermt_100 {d : Nat} (f1 : List zV → zH d → zP d → Bool) (f2 : List zV → zH d → zP d → Bool) (P : zP d) (r51 : zK d) : zK d := (xaaT (xaldV 0 (xgfR 18 2 (xild 1 (xaaT (xcV 18 3 0 0 (zstr f2) (xif0S teqR rlEq rhEq rlNe rhNe (xaldV 0 (xpI 6 (xild 3 (xild 1 (xpI 1 (xcV 18 5 0 0 (zstr f_X2_failt) (xzret P))))))) (xincR 2 1 r51))))))))
set_option maxRecDepth 100000 in
set_option maxHeartbeats 4000000 in
theorem scX2_readTermt_100 {d : Nat} [zGh] (n1 n2 : Nat) (f1 : List zV → zH d → zP d → Bool) (f2 : List zV → zH d → zP d → Bool) (hf1 : zMet X_X2_readFactor yX2_readFactor n1 f1) (hf2 : zMet X_X2_multiply yX2_multiply n2 f2) (P : zP d) (r51 : zK d) (hr51 : zSimJ 2 X_X2_readTerm (n1 + n2 + 3) P 51 r51) : zSim X_X2_readTerm (n1 + n2 + 3) P 100 (cX2_readTermt_100 f1 f2 P r51) := by
  unfold cX2_readTermt_100
  refine sm_aaloadT (pc := 100) dX2_readTerm_100 ?_
  refine sm_aloadV_n (pc := 101) (n := 0) dX2_readTerm_101 rfl ?_
  refine gf_X2_23 (pc := 102) rfl dX2_readTerm_102 ?_
  refine sm_iload_n (pc := 105) (n := 1) dX2_readTerm_105 rfl ?_
  refine sm_aaloadT (pc := 106) dX2_readTerm_106 ?_
  refine sm_cV (pc := 107) (ci := 2) (n := 3) (mc := 0) (ms := 0) rfl (zMet_str hf2) (cr_X2_122 (X := X_X2_readTerm) (fr := n1 + n2 + 3) (frc := n2) (pc := 107) (mc := 0) (ms := 0) rfl (by omega) dX2_readTerm_107) ?_
  refine sm_ifS_ne (pc := 110) (tgt := 123) dX2_readTerm_110 (by decide) ?_ ?_
  · skip
    refine sm_iincR (pc := 123) (n := 2) dX2_readTerm_123 zc_i_1 ?_
    refine sm_goto (pc := 126) (tgt := 51) dX2_readTerm_126 (by decide) ?_
    exact hr51.use
  · skip
    refine sm_aloadV_n (pc := 113) (n := 0) dX2_readTerm_113 rfl ?_
    refine sm_bipush (pc := 114) dX2_readTerm_114 zc_b_6 ?_
    refine sm_iload_n (pc := 116) (n := 3) dX2_readTerm_116 rfl ?_
    refine sm_iload_n (pc := 117) (n := 1) dX2_readTerm_117 rfl ?_
    refine sm_iconst (pc := 118) dX2_readTerm_118 zc_i_1 ?_
    refine sm_cV (pc := 119) (ci := 2) (n := 5) (mc := 0) (ms := 0) rfl (zMet_str m_X2_failt) (cr_X2_115 (X := X_X2_readTerm) (fr := n1 + n2 + 3) (frc := 2) (pc := 119) (mc := 0) (ms := 0) rfl (by omega) dX2_readTerm_119) ?_
    exact sm_zreturn (pc := 122) dX2_readTerm_122 rfl
noncomputable def lX2_readTermt_51 {d : Nat} (f1 : List zV → zH d → zP d → Bool) (f2 : List zV → zH d → zP d → Bool) (P : zP d) (r51 : zK d) : zK d := (xild 2 (xpI 200 (xcmpS tgeR rlGe rhS rlS rhLt (xpI 1 (xzret P)) (xaldV 0 (xcV 18 1 0 0 (zstr (zenT 18 14 g_X2_next)) (xpI 42 (xcmpS teqR rlEq rhEq rlNe rhNe (xaldV 0 (xgfI 18 14 (xist 3 (xaldV 0 (xdup (xgfI 18 14 (xpI 1 (xbin zaddR (xpfI 18 14 (xaldV 0 (xild 1 (xcV 18 2 0 0 (zstr f1) (xif0S teqR rlEq rhEq rlNe rhNe (xpI 0 (xzret P)) (xaldV 0 (xaldV 0 (xgfR 18 3 (xild 1 (cX2_readTermt_100 f1 f2 P r51)))))))))))))))))) (xpI 1 (xzret P)))))))))
set_option maxRecDepth 100000 in
set_option maxHeartbeats 4000000 in
theorem slX2_readTermt_51 {d : Nat} [zGh] (n1 n2 : Nat) (f1 : List zV → zH d → zP d → Bool) (f2 : List zV → zH d → zP d → Bool) (hf1 : zMet X_X2_readFactor yX2_readFactor n1 f1) (hf2 : zMet X_X2_multiply yX2_multiply n2 f2) (P : zP d) (r51 : zK d) (hr51 : zSimJ 2 X_X2_readTerm (n1 + n2 + 3) P 51 r51) : zSim X_X2_readTerm (n1 + n2 + 3) P 51 (lX2_readTermt_51 f1 f2 P r51) := by
  unfold lX2_readTermt_51
  refine sm_iload_n (pc := 51) (n := 2) dX2_readTerm_51 rfl ?_
  refine sm_sipush (pc := 52) dX2_readTerm_52 zc_s_200 ?_
  refine sm_icmpS_ge (pc := 55) (tgt := 129) dX2_readTerm_55 (by decide) ?_ ?_
  · skip
    refine sm_iconst (pc := 129) dX2_readTerm_129 zc_i_1 ?_
    exact sm_zreturn (pc := 130) dX2_readTerm_130 rfl
  · skip
    refine sm_aloadV_n (pc := 58) (n := 0) dX2_readTerm_58 rfl ?_
    refine sm_cV (pc := 59) (ci := 2) (n := 1) (mc := 0) (ms := 0) rfl (zMet_str (zMet_en (ci := 2) rfl rfl (by decide) mg_X2_next)) (cr_X2_74 (X := X_X2_readTerm) (fr := n1 + n2 + 3) (frc := 1) (pc := 59) (mc := 0) (ms := 0) rfl (by omega) dX2_readTerm_59) ?_
    refine sm_bipush (pc := 62) dX2_readTerm_62 zc_b_42 ?_
    refine sm_icmpS_eq (pc := 64) (tgt := 69) dX2_readTerm_64 (by decide) ?_ ?_
    · skip
      refine sm_aloadV_n (pc := 69) (n := 0) dX2_readTerm_69 rfl ?_
      refine gf_X2_60 (pc := 70) rfl dX2_readTerm_70 ?_
      refine sm_istore_n (pc := 73) (n := 3) dX2_readTerm_73 rfl ?_
      refine sm_aloadV_n (pc := 74) (n := 0) dX2_readTerm_74 rfl ?_
      refine sm_dup (pc := 75) dX2_readTerm_75 ?_
      refine gf_X2_60 (pc := 76) rfl dX2_readTerm_76 ?_
      refine sm_iconst (pc := 79) dX2_readTerm_79 zc_i_1 ?_
      refine sm_iaddR (pc := 80) dX2_readTerm_80 ?_
      refine pf_X2_60 (pc := 81) rfl dX2_readTerm_81 ?_
      refine sm_aloadV_n (pc := 84) (n := 0) dX2_readTerm_84 rfl ?_
      refine sm_iload_n (pc := 85) (n := 1) dX2_readTerm_85 rfl ?_
      refine sm_cV (pc := 86) (ci := 2) (n := 2) (mc := 0) (ms := 0) rfl (zMet_str hf1) (cr_X2_119 (X := X_X2_readTerm) (fr := n1 + n2 + 3) (frc := n1) (pc := 86) (mc := 0) (ms := 0) rfl (by omega) dX2_readTerm_86) ?_
      refine sm_ifS_ne (pc := 89) (tgt := 94) dX2_readTerm_89 (by decide) ?_ ?_
      · skip
        refine sm_aloadV_n (pc := 94) (n := 0) dX2_readTerm_94 rfl ?_
        refine sm_aloadV_n (pc := 95) (n := 0) dX2_readTerm_95 rfl ?_
        refine gf_X2_26 (pc := 96) rfl dX2_readTerm_96 ?_
        refine sm_iload_n (pc := 99) (n := 1) dX2_readTerm_99 rfl ?_
        exact scX2_readTermt_100 n1 n2 f1 f2 hf1 hf2 P r51 hr51
      · skip
        refine sm_iconst (pc := 92) dX2_readTerm_92 zc_i_0 ?_
        exact sm_zreturn (pc := 93) dX2_readTerm_93 rfl
    · skip
      refine sm_iconst (pc := 67) dX2_readTerm_67 zc_i_1 ?_
      exact sm_zreturn (pc := 68) dX2_readTerm_68 rfl
noncomputable def cX2_readTermt_40 {d : Nat} (f1 : List zV → zH d → zP d → Bool) (f2 : List zV → zH d → zP d → Bool) (P : zP d) : zK d := (xgfR 18 12 (xgfI 23 1 (xcpy 2 72 (xpI 0 (xist 2 (xlp 2 1 (hsC 201) (wkU 3 wkE) (fun r51 => (lX2_readTermt_51 f1 f2 P r51))))))))
set_option maxRecDepth 100000 in
set_option maxHeartbeats 4000000 in
theorem scX2_readTermt_40 {d : Nat} [zGh] (n1 n2 : Nat) (f1 : List zV → zH d → zP d → Bool) (f2 : List zV → zH d → zP d → Bool) (hf1 : zMet X_X2_readFactor yX2_readFactor n1 f1) (hf2 : zMet X_X2_multiply yX2_multiply n2 f2) (P : zP d) : zSim X_X2_readTerm (n1 + n2 + 3) P 40 (cX2_readTermt_40 f1 f2 P) := by
  unfold cX2_readTermt_40
  refine gf_X2_49 (pc := 40) rfl dX2_readTerm_40 ?_
  refine gf_X2_100 (pc := 43) rfl dX2_readTerm_43 ?_
  refine sm_copyJ (pc := 46) wd_753 wd_80 wd_79 wd_7 (by omega) dX2_readTerm_46 ?_
  refine sm_iconst (pc := 49) dX2_readTerm_49 zc_i_0 ?_
  refine sm_istore_n (pc := 50) (n := 2) dX2_readTerm_50 rfl ?_
  exact sm_lp (i := 2) (j := 1) (by decide) (by decide) hsC_ok (wkU_ok wkE_ok) (fun G1 hG1 r51 hr51 => @slX2_readTermt_51 d G1 n1 n2 f1 f2 hf1 hf2 P r51 hr51)
noncomputable def b_X2_readTermt {d : Nat} (f1 : List zV → zH d → zP d → Bool) (f2 : List zV → zH d → zP d → Bool) (P : zP d) : zK d := (xaldV 0 (xcV 18 1 0 0 (zstr (zenT 18 14 g_X2_next)) (xpop (xaldV 0 (xgfR 18 5 (xild 1 (xaldV 0 (xgfI 18 14 (xasQ 0 (fun v => v) (xaldV 0 (xild 1 (xcV 18 2 0 0 (zstr f1) (xif0S teqR rlEq rhEq rlNe rhNe (xpI 0 (xzret P)) (xaldV 0 (xgfR 18 3 (xild 1 (xaaT (xpI 0 (xaldV 0 (xgfR 18 2 (xild 1 (xaaT (xpI 0 (xaldV 0 (cX2_readTermt_40 f1 f2 P)))))))))))))))))))))))))
set_option maxRecDepth 100000 in
set_option maxHeartbeats 4000000 in
theorem s_X2_readTermt {d : Nat} [zGh] (n1 n2 : Nat) (f1 : List zV → zH d → zP d → Bool) (f2 : List zV → zH d → zP d → Bool) (hf1 : zMet X_X2_readFactor yX2_readFactor n1 f1) (hf2 : zMet X_X2_multiply yX2_multiply n2 f2) (P : zP d) : zSim X_X2_readTerm (n1 + n2 + 3) P 0 (b_X2_readTermt f1 f2 P) := by
  unfold b_X2_readTermt
  refine sm_aloadV_n (pc := 0) (n := 0) dX2_readTerm_0 rfl ?_
  refine sm_cV (pc := 1) (ci := 2) (n := 1) (mc := 0) (ms := 0) rfl (zMet_str (zMet_en (ci := 2) rfl rfl (by decide) mg_X2_next)) (cr_X2_74 (X := X_X2_readTerm) (fr := n1 + n2 + 3) (frc := 1) (pc := 1) (mc := 0) (ms := 0) rfl (by omega) dX2_readTerm_1) ?_
  refine sm_pop (pc := 4) dX2_readTerm_4 ?_
  refine sm_aloadV_n (pc := 5) (n := 0) dX2_readTerm_5 rfl ?_
  refine gf_X2_33 (pc := 6) rfl dX2_readTerm_6 ?_
  refine sm_iload_n (pc := 9) (n := 1) dX2_readTerm_9 rfl ?_
  refine sm_aloadV_n (pc := 10) (n := 0) dX2_readTerm_10 rfl ?_
  refine gf_X2_60 (pc := 11) rfl dX2_readTerm_11 ?_
  refine sm_iastoreQ (pc := 14) dX2_readTerm_14 ?_
  refine sm_aloadV_n (pc := 15) (n := 0) dX2_readTerm_15 rfl ?_
  refine sm_iload_n (pc := 16) (n := 1) dX2_readTerm_16 rfl ?_
  refine sm_cV (pc := 17) (ci := 2) (n := 2) (mc := 0) (ms := 0) rfl (zMet_str hf1) (cr_X2_119 (X := X_X2_readTerm) (fr := n1 + n2 + 3) (frc := n1) (pc := 17) (mc := 0) (ms := 0) rfl (by omega) dX2_readTerm_17) ?_
  refine sm_ifS_ne (pc := 20) (tgt := 25) dX2_readTerm_20 (by decide) ?_ ?_
  · skip
    refine sm_aloadV_n (pc := 25) (n := 0) dX2_readTerm_25 rfl ?_
    refine gf_X2_26 (pc := 26) rfl dX2_readTerm_26 ?_
    refine sm_iload_n (pc := 29) (n := 1) dX2_readTerm_29 rfl ?_
    refine sm_aaloadT (pc := 30) dX2_readTerm_30 ?_
    refine sm_iconst (pc := 31) dX2_readTerm_31 zc_i_0 ?_
    refine sm_aloadV_n (pc := 32) (n := 0) dX2_readTerm_32 rfl ?_
    refine gf_X2_23 (pc := 33) rfl dX2_readTerm_33 ?_
    refine sm_iload_n (pc := 36) (n := 1) dX2_readTerm_36 rfl ?_
    refine sm_aaloadT (pc := 37) dX2_readTerm_37 ?_
    refine sm_iconst (pc := 38) dX2_readTerm_38 zc_i_0 ?_
    refine sm_aloadV_n (pc := 39) (n := 0) dX2_readTerm_39 rfl ?_
    exact scX2_readTermt_40 n1 n2 f1 f2 hf1 hf2 P
  · skip
    refine sm_iconst (pc := 23) dX2_readTerm_23 zc_i_0 ?_
    exact sm_zreturn (pc := 24) dX2_readTerm_24 rfl
noncomputable def f_X2_readTermt {d : Nat} (f1 : List zV → zH d → zP d → Bool) (f2 : List zV → zH d → zP d → Bool) : List zV → zH d → zP d → Bool := zfn 4 (b_X2_readTermt f1 f2 )
theorem m_X2_readTermt {d : Nat} (n1 n2 : Nat) (f1 : List zV → zH d → zP d → Bool) (f2 : List zV → zH d → zP d → Bool) (hf1 : zMet X_X2_readFactor yX2_readFactor n1 f1) (hf2 : zMet X_X2_multiply yX2_multiply n2 f2) : zMet (d := d) X_X2_readTerm yX2_readTerm (n1 + n2 + 3) (f_X2_readTermt f1 f2 ) := zmet_mk (X := X_X2_readTerm) (by decide) rfl rfl (fun P => s_X2_readTermt n1 n2 f1 f2 hf1 hf2 P)

noncomputable def bX2_readSumt_121 {d : Nat} (f1 : List zV → zH d → zP d → Bool) (f2 : List zV → zH d → zP d → Bool) (P : zP d) (r51 : zK d) : zK d := (xaldV 0 (xgfR 18 1 (xild 1 (xaaT (xcV 18 4 0 0 (zstr f2) (xif0S teqR rlEq rhEq rlNe rhNe (xaldV 0 (xpI 6 (xild 4 (xild 1 (xpI 2 (xcV 18 5 0 0 (zstr f_X2_failt) (xzret P))))))) (xincR 2 1 r51)))))))
set_option maxRecDepth 100000 in
set_option maxHeartbeats 4000000 in
theorem sbX2_readSumt_121 {d : Nat} [zGh] (n1 n2 : Nat) (f1 : List zV → zH d → zP d → Bool) (f2 : List zV → zH d → zP d → Bool) (hf1 : zMet X_X2_readTerm yX2_readTerm n1 f1) (hf2 : zMet X_X2_add yX2_add n2 f2) (P : zP d) (r51 : zK d) (hr51 : zSimJ 2 X_X2_readSum (n1 + n2 + 3) P 51 r51) : zSim X_X2_readSum (n1 + n2 + 3) P 121 (bX2_readSumt_121 f1 f2 P r51) := by
  unfold bX2_readSumt_121
  refine sm_aloadV_n (pc := 121) (n := 0) dX2_readSum_121 rfl ?_
  refine gf_X2_20 (pc := 122) rfl dX2_readSum_122 ?_
  refine sm_iload_n (pc := 125) (n := 1) dX2_readSum_125 rfl ?_
  refine sm_aaloadT (pc := 126) dX2_readSum_126 ?_
  refine sm_cV (pc := 127) (ci := 2) (n := 4) (mc := 0) (ms := 0) rfl (zMet_str hf2) (cr_X2_111 (X := X_X2_readSum) (fr := n1 + n2 + 3) (frc := n2) (pc := 127) (mc := 0) (ms := 0) rfl (by omega) dX2_readSum_127) ?_
  refine sm_ifS_ne (pc := 130) (tgt := 144) dX2_readSum_130 (by decide) ?_ ?_
  · skip
    refine sm_iincR (pc := 144) (n := 2) dX2_readSum_144 zc_i_1 ?_
    refine sm_goto (pc := 147) (tgt := 51) dX2_readSum_147 (by decide) ?_
    exact hr51.use
  · skip
    refine sm_aloadV_n (pc := 133) (n := 0) dX2_readSum_133 rfl ?_
    refine sm_bipush (pc := 134) dX2_readSum_134 zc_b_6 ?_
    refine sm_iload (pc := 136) (n := 4) dX2_readSum_136 ?_
    refine sm_iload_n (pc := 138) (n := 1) dX2_readSum_138 rfl ?_
    refine sm_iconst (pc := 139) dX2_readSum_139 zc_i_2 ?_
    refine sm_cV (pc := 140) (ci := 2) (n := 5) (mc := 0) (ms := 0) rfl (zMet_str m_X2_failt) (cr_X2_115 (X := X_X2_readSum) (fr := n1 + n2 + 3) (frc := 2) (pc := 140) (mc := 0) (ms := 0) rfl (by omega) dX2_readSum_140) ?_
    exact sm_zreturn (pc := 143) dX2_readSum_143 rfl
noncomputable def bX2_readSumt_77 {d : Nat} (f1 : List zV → zH d → zP d → Bool) (f2 : List zV → zH d → zP d → Bool) (P : zP d) (r51 : zK d) : zK d := (xaldV 0 (xgfI 18 14 (xist 4 (xaldV 0 (xdup (xgfI 18 14 (xpI 1 (xbin zaddR (xpfI 18 14 (xaldV 0 (xild 1 (xcV 18 2 0 0 (zstr f1) (xif0S teqR rlEq rhEq rlNe rhNe (xpI 0 (xzret P)) (xaldV 0 (xaldV 0 (xgfR 18 2 (xild 1 (xaaT (xild 3 (xpI 45 (xjn wkE (zsp [zI 4294967298] 2) (bX2_readSumt_121 f1 f2 P r51) (fun j121 => (xcmpS teqR rlEq rhEq rlNe rhNe (xpI 1 j121) (xpI 0 j121))))))))))))))))))))))))
set_option maxRecDepth 100000 in
set_option maxHeartbeats 4000000 in
theorem sbX2_readSumt_77 {d : Nat} [zGh] (n1 n2 : Nat) (f1 : List zV → zH d → zP d → Bool) (f2 : List zV → zH d → zP d → Bool) (hf1 : zMet X_X2_readTerm yX2_readTerm n1 f1) (hf2 : zMet X_X2_add yX2_add n2 f2) (P : zP d) (r51 : zK d) (hr51 : zSimJ 2 X_X2_readSum (n1 + n2 + 3) P 51 r51) : zSim X_X2_readSum (n1 + n2 + 3) P 77 (bX2_readSumt_77 f1 f2 P r51) := by
  unfold bX2_readSumt_77
  refine sm_aloadV_n (pc := 77) (n := 0) dX2_readSum_77 rfl ?_
  refine gf_X2_60 (pc := 78) rfl dX2_readSum_78 ?_
  refine sm_istore (pc := 81) (n := 4) dX2_readSum_81 ?_
  refine sm_aloadV_n (pc := 83) (n := 0) dX2_readSum_83 rfl ?_
  refine sm_dup (pc := 84) dX2_readSum_84 ?_
  refine gf_X2_60 (pc := 85) rfl dX2_readSum_85 ?_
  refine sm_iconst (pc := 88) dX2_readSum_88 zc_i_1 ?_
  refine sm_iaddR (pc := 89) dX2_readSum_89 ?_
  refine pf_X2_60 (pc := 90) rfl dX2_readSum_90 ?_
  refine sm_aloadV_n (pc := 93) (n := 0) dX2_readSum_93 rfl ?_
  refine sm_iload_n (pc := 94) (n := 1) dX2_readSum_94 rfl ?_
  refine sm_cV (pc := 95) (ci := 2) (n := 2) (mc := 0) (ms := 0) rfl (zMet_str hf1) (cr_X2_97 (X := X_X2_readSum) (fr := n1 + n2 + 3) (frc := n1) (pc := 95) (mc := 0) (ms := 0) rfl (by omega) dX2_readSum_95) ?_
  refine sm_ifS_ne (pc := 98) (tgt := 103) dX2_readSum_98 (by decide) ?_ ?_
  · skip
    refine sm_aloadV_n (pc := 103) (n := 0) dX2_readSum_103 rfl ?_
    refine sm_aloadV_n (pc := 104) (n := 0) dX2_readSum_104 rfl ?_
    refine gf_X2_23 (pc := 105) rfl dX2_readSum_105 ?_
    refine sm_iload_n (pc := 108) (n := 1) dX2_readSum_108 rfl ?_
    refine sm_aaloadT (pc := 109) dX2_readSum_109 ?_
    refine sm_iload_n (pc := 110) (n := 3) dX2_readSum_110 rfl ?_
    refine sm_bipush (pc := 111) dX2_readSum_111 zc_b_45 ?_
    refine sm_jn (pc := 113) (pc' := 121) (j := 2) wkE_ok (zsp_ok _ _) (fun G0 hG0 => @sbX2_readSumt_121 d G0 n1 n2 f1 f2 hf1 hf2 P r51 (hr51.mv hG0 (by decide))) (fun j121 hj121 => ?_)
    refine sm_icmpS_ne (pc := 113) (tgt := 120) dX2_readSum_113 (by decide) ?_ ?_
    · skip
      refine sm_iconst (pc := 120) dX2_readSum_120 zc_i_0 ?_
      exact hj121.use
    · skip
      refine sm_iconst (pc := 116) dX2_readSum_116 zc_i_1 ?_
      refine sm_goto (pc := 117) (tgt := 121) dX2_readSum_117 (by decide) ?_
      exact hj121.use
  · skip
    refine sm_iconst (pc := 101) dX2_readSum_101 zc_i_0 ?_
    exact sm_zreturn (pc := 102) dX2_readSum_102 rfl
noncomputable def lX2_readSumt_51 {d : Nat} (f1 : List zV → zH d → zP d → Bool) (f2 : List zV → zH d → zP d → Bool) (P : zP d) (r51 : zK d) : zK d := (xild 2 (xpI 200 (xcmpS tgeR rlGe rhS rlS rhLt (xpI 1 (xzret P)) (xaldV 0 (xcV 18 1 0 0 (zstr (zenT 18 14 g_X2_next)) (xist 3 (xild 3 (xpI 43 (xjoin (bX2_readSumt_77 f1 f2 P r51) (fun j77 => (xcmpS teqR rlEq rhEq rlNe rhNe j77 (xild 3 (xpI 45 (xcmpS teqR rlEq rhEq rlNe rhNe j77 (xpI 1 (xzret P))))))))))))))))
set_option maxRecDepth 100000 in
set_option maxHeartbeats 4000000 in
theorem slX2_readSumt_51 {d : Nat} [zGh] (n1 n2 : Nat) (f1 : List zV → zH d → zP d → Bool) (f2 : List zV → zH d → zP d → Bool) (hf1 : zMet X_X2_readTerm yX2_readTerm n1 f1) (hf2 : zMet X_X2_add yX2_add n2 f2) (P : zP d) (r51 : zK d) (hr51 : zSimJ 2 X_X2_readSum (n1 + n2 + 3) P 51 r51) : zSim X_X2_readSum (n1 + n2 + 3) P 51 (lX2_readSumt_51 f1 f2 P r51) := by
  unfold lX2_readSumt_51
  refine sm_iload_n (pc := 51) (n := 2) dX2_readSum_51 rfl ?_
  refine sm_sipush (pc := 52) dX2_readSum_52 zc_s_200 ?_
  refine sm_icmpS_ge (pc := 55) (tgt := 150) dX2_readSum_55 (by decide) ?_ ?_
  · skip
    refine sm_iconst (pc := 150) dX2_readSum_150 zc_i_1 ?_
    exact sm_zreturn (pc := 151) dX2_readSum_151 rfl
  · skip
    refine sm_aloadV_n (pc := 58) (n := 0) dX2_readSum_58 rfl ?_
    refine sm_cV (pc := 59) (ci := 2) (n := 1) (mc := 0) (ms := 0) rfl (zMet_str (zMet_en (ci := 2) rfl rfl (by decide) mg_X2_next)) (cr_X2_74 (X := X_X2_readSum) (fr := n1 + n2 + 3) (frc := 1) (pc := 59) (mc := 0) (ms := 0) rfl (by omega) dX2_readSum_59) ?_
    refine sm_istore_n (pc := 62) (n := 3) dX2_readSum_62 rfl ?_
    refine sm_iload_n (pc := 63) (n := 3) dX2_readSum_63 rfl ?_
    refine sm_bipush (pc := 64) dX2_readSum_64 zc_b_43 ?_
    refine sm_joinJ (pc := 66) (pc' := 77) (j := 2) (fun G0 hG0 => @sbX2_readSumt_77 d G0 n1 n2 f1 f2 hf1 hf2 P r51 (hr51.mv hG0 (by decide))) (fun j77 hj77 => ?_)
    refine sm_icmpS_eq (pc := 66) (tgt := 77) dX2_readSum_66 (by decide) ?_ ?_
    · skip
      exact hj77.use
    · skip
      refine sm_iload_n (pc := 69) (n := 3) dX2_readSum_69 rfl ?_
      refine sm_bipush (pc := 70) dX2_readSum_70 zc_b_45 ?_
      refine sm_icmpS_eq (pc := 72) (tgt := 77) dX2_readSum_72 (by decide) ?_ ?_
      · skip
        exact hj77.use
      · skip
        refine sm_iconst (pc := 75) dX2_readSum_75 zc_i_1 ?_
        exact sm_zreturn (pc := 76) dX2_readSum_76 rfl
noncomputable def cX2_readSumt_40 {d : Nat} (f1 : List zV → zH d → zP d → Bool) (f2 : List zV → zH d → zP d → Bool) (P : zP d) : zK d := (xgfR 18 12 (xgfI 23 1 (xcpy 2 72 (xpI 0 (xist 2 (xlp 2 1 (hsC 201) (wkU 3 (wkU 4 wkE)) (fun r51 => (lX2_readSumt_51 f1 f2 P r51))))))))
set_option maxRecDepth 100000 in
set_option maxHeartbeats 4000000 in
theorem scX2_readSumt_40 {d : Nat} [zGh] (n1 n2 : Nat) (f1 : List zV → zH d → zP d → Bool) (f2 : List zV → zH d → zP d → Bool) (hf1 : zMet X_X2_readTerm yX2_readTerm n1 f1) (hf2 : zMet X_X2_add yX2_add n2 f2) (P : zP d) : zSim X_X2_readSum (n1 + n2 + 3) P 40 (cX2_readSumt_40 f1 f2 P) := by
  unfold cX2_readSumt_40
  refine gf_X2_49 (pc := 40) rfl dX2_readSum_40 ?_
  refine gf_X2_100 (pc := 43) rfl dX2_readSum_43 ?_
  refine sm_copyJ (pc := 46) wd_753 wd_80 wd_79 wd_7 (by omega) dX2_readSum_46 ?_
  refine sm_iconst (pc := 49) dX2_readSum_49 zc_i_0 ?_
  refine sm_istore_n (pc := 50) (n := 2) dX2_readSum_50 rfl ?_
  exact sm_lp (i := 2) (j := 1) (by decide) (by decide) hsC_ok (wkU_ok (wkU_ok wkE_ok)) (fun G1 hG1 r51 hr51 => @slX2_readSumt_51 d G1 n1 n2 f1 f2 hf1 hf2 P r51 hr51)
noncomputable def b_X2_readSumt {d : Nat} (f1 : List zV → zH d → zP d → Bool) (f2 : List zV → zH d → zP d → Bool) (P : zP d) : zK d := (xaldV 0 (xcV 18 1 0 0 (zstr (zenT 18 14 g_X2_next)) (xpop (xaldV 0 (xgfR 18 4 (xild 1 (xaldV 0 (xgfI 18 14 (xasQ 0 (fun v => v) (xaldV 0 (xild 1 (xcV 18 2 0 0 (zstr f1) (xif0S teqR rlEq rhEq rlNe rhNe (xpI 0 (xzret P)) (xaldV 0 (xgfR 18 2 (xild 1 (xaaT (xpI 0 (xaldV 0 (xgfR 18 1 (xild 1 (xaaT (xpI 0 (xaldV 0 (cX2_readSumt_40 f1 f2 P)))))))))))))))))))))))))
set_option maxRecDepth 100000 in
set_option maxHeartbeats 4000000 in
theorem s_X2_readSumt {d : Nat} [zGh] (n1 n2 : Nat) (f1 : List zV → zH d → zP d → Bool) (f2 : List zV → zH d → zP d → Bool) (hf1 : zMet X_X2_readTerm yX2_readTerm n1 f1) (hf2 : zMet X_X2_add yX2_add n2 f2) (P : zP d) : zSim X_X2_readSum (n1 + n2 + 3) P 0 (b_X2_readSumt f1 f2 P) := by
  unfold b_X2_readSumt
  refine sm_aloadV_n (pc := 0) (n := 0) dX2_readSum_0 rfl ?_
  refine sm_cV (pc := 1) (ci := 2) (n := 1) (mc := 0) (ms := 0) rfl (zMet_str (zMet_en (ci := 2) rfl rfl (by decide) mg_X2_next)) (cr_X2_74 (X := X_X2_readSum) (fr := n1 + n2 + 3) (frc := 1) (pc := 1) (mc := 0) (ms := 0) rfl (by omega) dX2_readSum_1) ?_
  refine sm_pop (pc := 4) dX2_readSum_4 ?_
  refine sm_aloadV_n (pc := 5) (n := 0) dX2_readSum_5 rfl ?_
  refine gf_X2_29 (pc := 6) rfl dX2_readSum_6 ?_
  refine sm_iload_n (pc := 9) (n := 1) dX2_readSum_9 rfl ?_
  refine sm_aloadV_n (pc := 10) (n := 0) dX2_readSum_10 rfl ?_
  refine gf_X2_60 (pc := 11) rfl dX2_readSum_11 ?_
  refine sm_iastoreQ (pc := 14) dX2_readSum_14 ?_
  refine sm_aloadV_n (pc := 15) (n := 0) dX2_readSum_15 rfl ?_
  refine sm_iload_n (pc := 16) (n := 1) dX2_readSum_16 rfl ?_
  refine sm_cV (pc := 17) (ci := 2) (n := 2) (mc := 0) (ms := 0) rfl (zMet_str hf1) (cr_X2_97 (X := X_X2_readSum) (fr := n1 + n2 + 3) (frc := n1) (pc := 17) (mc := 0) (ms := 0) rfl (by omega) dX2_readSum_17) ?_
  refine sm_ifS_ne (pc := 20) (tgt := 25) dX2_readSum_20 (by decide) ?_ ?_
  · skip
    refine sm_aloadV_n (pc := 25) (n := 0) dX2_readSum_25 rfl ?_
    refine gf_X2_23 (pc := 26) rfl dX2_readSum_26 ?_
    refine sm_iload_n (pc := 29) (n := 1) dX2_readSum_29 rfl ?_
    refine sm_aaloadT (pc := 30) dX2_readSum_30 ?_
    refine sm_iconst (pc := 31) dX2_readSum_31 zc_i_0 ?_
    refine sm_aloadV_n (pc := 32) (n := 0) dX2_readSum_32 rfl ?_
    refine gf_X2_20 (pc := 33) rfl dX2_readSum_33 ?_
    refine sm_iload_n (pc := 36) (n := 1) dX2_readSum_36 rfl ?_
    refine sm_aaloadT (pc := 37) dX2_readSum_37 ?_
    refine sm_iconst (pc := 38) dX2_readSum_38 zc_i_0 ?_
    refine sm_aloadV_n (pc := 39) (n := 0) dX2_readSum_39 rfl ?_
    exact scX2_readSumt_40 n1 n2 f1 f2 hf1 hf2 P
  · skip
    refine sm_iconst (pc := 23) dX2_readSum_23 zc_i_0 ?_
    exact sm_zreturn (pc := 24) dX2_readSum_24 rfl
noncomputable def f_X2_readSumt {d : Nat} (f1 : List zV → zH d → zP d → Bool) (f2 : List zV → zH d → zP d → Bool) : List zV → zH d → zP d → Bool := zfn 5 (b_X2_readSumt f1 f2 )
theorem m_X2_readSumt {d : Nat} (n1 n2 : Nat) (f1 : List zV → zH d → zP d → Bool) (f2 : List zV → zH d → zP d → Bool) (hf1 : zMet X_X2_readTerm yX2_readTerm n1 f1) (hf2 : zMet X_X2_add yX2_add n2 f2) : zMet (d := d) X_X2_readSum yX2_readSum (n1 + n2 + 3) (f_X2_readSumt f1 f2 ) := zmet_mk (X := X_X2_readSum) (by decide) rfl rfl (fun P => s_X2_readSumt n1 n2 f1 f2 hf1 hf2 P)

noncomputable def bX2_readt_54 {d : Nat} (f1 : List zV → zH d → zP d → Bool) (P : zP d) : zK d := (xzret P)
set_option maxRecDepth 100000 in
set_option maxHeartbeats 4000000 in
theorem sbX2_readt_54 {d : Nat} [zGh] (n1 : Nat) (f1 : List zV → zH d → zP d → Bool) (hf1 : zMet X_X2_readSum yX2_readSum n1 f1) (P : zP d) : zSim X_X2_read (n1 + 3) P 54 (bX2_readt_54 f1 P) := by
  unfold bX2_readt_54
  exact sm_zreturn (pc := 54) dX2_read_54 rfl
noncomputable def bX2_readt_53 {d : Nat} (f1 : List zV → zH d → zP d → Bool) (P : zP d) (j54 : zK d) : zK d := (xpI 0 j54)
set_option maxRecDepth 100000 in
set_option maxHeartbeats 4000000 in
theorem sbX2_readt_53 {d : Nat} [zGh] (n1 : Nat) (f1 : List zV → zH d → zP d → Bool) (hf1 : zMet X_X2_readSum yX2_readSum n1 f1) (P : zP d) (j54 : zK d) (hj54 : zSimJ 1 X_X2_read (n1 + 3) P 54 j54) : zSim X_X2_read (n1 + 3) P 53 (bX2_readt_53 f1 P j54) := by
  unfold bX2_readt_53
  refine sm_iconst (pc := 53) dX2_read_53 zc_i_0 ?_
  exact hj54.use
noncomputable def bX2_readt_49 {d : Nat} (f1 : List zV → zH d → zP d → Bool) (P : zP d) (j54 : zK d) : zK d := (xpI 1 j54)
set_option maxRecDepth 100000 in
set_option maxHeartbeats 4000000 in
theorem sbX2_readt_49 {d : Nat} [zGh] (n1 : Nat) (f1 : List zV → zH d → zP d → Bool) (hf1 : zMet X_X2_readSum yX2_readSum n1 f1) (P : zP d) (j54 : zK d) (hj54 : zSimJ 1 X_X2_read (n1 + 3) P 54 j54) : zSim X_X2_read (n1 + 3) P 49 (bX2_readt_49 f1 P j54) := by
  unfold bX2_readt_49
  refine sm_iconst (pc := 49) dX2_read_49 zc_i_1 ?_
  refine sm_goto (pc := 50) (tgt := 54) dX2_read_50 (by decide) ?_
  exact hj54.use
noncomputable def cX2_readt_46 {d : Nat} (f1 : List zV → zH d → zP d → Bool) (P : zP d) (j49 : zK d) (j53 : zK d) : zK d := (xif0S teqR rlEq rhEq rlNe rhNe j53 j49)
set_option maxRecDepth 100000 in
set_option maxHeartbeats 4000000 in
theorem scX2_readt_46 {d : Nat} [zGh] (n1 : Nat) (f1 : List zV → zH d → zP d → Bool) (hf1 : zMet X_X2_readSum yX2_readSum n1 f1) (P : zP d) (j49 : zK d) (j53 : zK d) (hj49 : zSimJ 1 X_X2_read (n1 + 3) P 49 j49) (hj53 : zSimJ 1 X_X2_read (n1 + 3) P 53 j53) : zSim X_X2_read (n1 + 3) P 46 (cX2_readt_46 f1 P j49 j53) := by
  unfold cX2_readt_46
  refine sm_ifS_eq (pc := 46) (tgt := 53) dX2_read_46 (by decide) ?_ ?_
  · skip
    exact hj53.use
  · skip
    exact hj49.use
noncomputable def b_X2_readt {d : Nat} (f1 : List zV → zH d → zP d → Bool) (P : zP d) : zK d := (xaldV 0 (xgfR 18 0 (xcV 17 1 0 0 (zstr f_X1_cleart) (xaldV 0 (xpI 0 (xpfI 18 14 (xaldV 0 (xgfR 18 1 (xpI 0 (xaaT (xpL 0 (xcS 2 0 0 (zstr f_J7_fill_d0a16) (xaldV 0 (xpI 0 (xcV 18 2 0 0 (zstr f1) (xjoin (bX2_readt_54 f1 P) (fun j54 => (xjoin (bX2_readt_53 f1 P j54) (fun j53 => (xif0S teqR rlEq rhEq rlNe rhNe j53 (xaldV 0 (xcV 18 1 0 0 (zstr (zenT 18 14 g_X2_next)) (xpI 4294967295 (xjoin (bX2_readt_49 f1 P j54) (fun j49 => (xcmpS teqR rlEq rhEq rlNe rhNe j49 (xaldV 0 (xaldV 0 (xgfI 18 14 (xcV 18 2 0 0 (zstr f_X2_refuset) (cX2_readt_46 f1 P j49 j53)))))))))))))))))))))))))))))))
set_option maxRecDepth 100000 in
set_option maxHeartbeats 4000000 in
theorem s_X2_readt {d : Nat} [zGh] (n1 : Nat) (f1 : List zV → zH d → zP d → Bool) (hf1 : zMet X_X2_readSum yX2_readSum n1 f1) (P : zP d) : zSim X_X2_read (n1 + 3) P 0 (b_X2_readt f1 P) := by
  unfold b_X2_readt
  refine sm_aloadV_n (pc := 0) (n := 0) dX2_read_0 rfl ?_
  refine gf_X2_12 (pc := 1) rfl dX2_read_1 ?_
  refine sm_cV (pc := 4) (ci := 1) (n := 1) (mc := 0) (ms := 0) rfl (zMet_str m_X1_cleart) (cr_X2_57 (X := X_X2_read) (fr := n1 + 3) (frc := 1) (pc := 4) (mc := 0) (ms := 0) rfl (by omega) dX2_read_4) ?_
  refine sm_aloadV_n (pc := 7) (n := 0) dX2_read_7 rfl ?_
  refine sm_iconst (pc := 8) dX2_read_8 zc_i_0 ?_
  refine pf_X2_60 (pc := 9) rfl dX2_read_9 ?_
  refine sm_aloadV_n (pc := 12) (n := 0) dX2_read_12 rfl ?_
  refine gf_X2_20 (pc := 13) rfl dX2_read_13 ?_
  refine sm_iconst (pc := 16) dX2_read_16 zc_i_0 ?_
  refine sm_aaloadT (pc := 17) dX2_read_17 ?_
  refine sm_lconst (pc := 18) dX2_read_18 zc_l_0 ?_
  refine sm_cS (pc := 19) (n := 2) (mc := 0) (ms := 0) (zMet_str m_J7_fill_d0a16) (cr_X2_64 (X := X_X2_read) (fr := n1 + 3) (frc := 1) (pc := 19) (mc := 0) (ms := 0) rfl (by omega) dX2_read_19) ?_
  refine sm_aloadV_n (pc := 22) (n := 0) dX2_read_22 rfl ?_
  refine sm_iconst (pc := 23) dX2_read_23 zc_i_0 ?_
  refine sm_cV (pc := 24) (ci := 2) (n := 2) (mc := 0) (ms := 0) rfl (zMet_str hf1) (cr_X2_70 (X := X_X2_read) (fr := n1 + 3) (frc := n1) (pc := 24) (mc := 0) (ms := 0) rfl (by omega) dX2_read_24) ?_
  refine sm_joinJ (pc := 27) (pc' := 54) (j := 1) (fun G0 hG0 => @sbX2_readt_54 d G0 n1 f1 hf1 P) (fun j54 hj54 => ?_)
  refine sm_joinJ (pc := 27) (pc' := 53) (j := 1) (fun G0 hG0 => @sbX2_readt_53 d G0 n1 f1 hf1 P j54 (hj54.mv hG0 (by decide))) (fun j53 hj53 => ?_)
  refine sm_ifS_eq (pc := 27) (tgt := 53) dX2_read_27 (by decide) ?_ ?_
  · skip
    exact hj53.use
  · skip
    refine sm_aloadV_n (pc := 30) (n := 0) dX2_read_30 rfl ?_
    refine sm_cV (pc := 31) (ci := 2) (n := 1) (mc := 0) (ms := 0) rfl (zMet_str (zMet_en (ci := 2) rfl rfl (by decide) mg_X2_next)) (cr_X2_74 (X := X_X2_read) (fr := n1 + 3) (frc := 1) (pc := 31) (mc := 0) (ms := 0) rfl (by omega) dX2_read_31) ?_
    refine sm_iconst (pc := 34) dX2_read_34 zc_i_m1 ?_
    refine sm_joinJ (pc := 35) (pc' := 49) (j := 1) (fun G0 hG0 => @sbX2_readt_49 d G0 n1 f1 hf1 P j54 (hj54.mv hG0 (by decide))) (fun j49 hj49 => ?_)
    refine sm_icmpS_eq (pc := 35) (tgt := 49) dX2_read_35 (by decide) ?_ ?_
    · skip
      exact hj49.use
    · skip
      refine sm_aloadV_n (pc := 38) (n := 0) dX2_read_38 rfl ?_
      refine sm_aloadV_n (pc := 39) (n := 0) dX2_read_39 rfl ?_
      refine gf_X2_60 (pc := 40) rfl dX2_read_40 ?_
      refine sm_cV (pc := 43) (ci := 2) (n := 2) (mc := 0) (ms := 0) rfl (zMet_str m_X2_refuset) (cr_X2_78 (X := X_X2_read) (fr := n1 + 3) (frc := 2) (pc := 43) (mc := 0) (ms := 0) rfl (by omega) dX2_read_43) ?_
      exact scX2_readt_46 n1 f1 hf1 P j49 j53 hj49 hj53
noncomputable def f_X2_readt {d : Nat} (f1 : List zV → zH d → zP d → Bool) : List zV → zH d → zP d → Bool := zfn 1 (b_X2_readt f1 )
theorem m_X2_readt {d : Nat} (n1 : Nat) (f1 : List zV → zH d → zP d → Bool) (hf1 : zMet X_X2_readSum yX2_readSum n1 f1) : zMet (d := d) X_X2_read yX2_read (n1 + 3) (f_X2_readt f1 ) := zmet_mk (X := X_X2_read) (by decide) rfl rfl (fun P => s_X2_readt n1 f1 hf1 P)

noncomputable def bX8_textt_62 {d : Nat} (f1 : List zV → zH d → zP d → Bool) (P : zP d) : zK d := (xaldV 0 (xgfR 24 4 (xpI 0 (xpfI 22 1 (xild 2 (xiret P))))))
set_option maxRecDepth 100000 in
set_option maxHeartbeats 4000000 in
theorem sbX8_textt_62 {d : Nat} [zGh] (n1 : Nat) (f1 : List zV → zH d → zP d → Bool) (hf1 : zMet X_X2_read yX2_read n1 f1) (P : zP d) : zSim X_X8_text (n1 + 2) P 62 (bX8_textt_62 f1 P) := by
  unfold bX8_textt_62
  refine sm_aloadV_n (pc := 62) (n := 0) dX8_text_62 rfl ?_
  refine gf_X8_33 (pc := 63) rfl dX8_text_63 ?_
  refine sm_iconst (pc := 66) dX8_text_66 zc_i_0 ?_
  refine pf_X8_85 (pc := 67) rfl dX8_text_67 ?_
  refine sm_iload_n (pc := 70) (n := 2) dX8_text_70 rfl ?_
  exact sm_ireturn (pc := 71) dX8_text_71 rfl
noncomputable def cX8_textt_57 {d : Nat} (f1 : List zV → zH d → zP d → Bool) (P : zP d) (j62 : zK d) : zK d := j62
set_option maxRecDepth 100000 in
set_option maxHeartbeats 4000000 in
theorem scX8_textt_57 {d : Nat} [zGh] (n1 : Nat) (f1 : List zV → zH d → zP d → Bool) (hf1 : zMet X_X2_read yX2_read n1 f1) (P : zP d) (j62 : zK d) (hj62 : zSimJ 1 X_X8_text (n1 + 2) P 62 j62) : zSim X_X8_text (n1 + 2) P 57 (cX8_textt_57 f1 P j62) := by
  unfold cX8_textt_57
  refine sm_goto (pc := 57) (tgt := 62) dX8_text_57 (by decide) ?_
  exact hj62.use
noncomputable def b_X8_textt {d : Nat} (f1 : List zV → zH d → zP d → Bool) (P : zP d) : zK d := (xpI 4294967294 (xist 2 (xild 1 (xcS 1 0 0 (zstr f_X8_isSlott) (xjoin (bX8_textt_62 f1 P) (fun j62 => (xif0S teqR rlEq rhEq rlNe rhNe (xaldV 0 (xgfR 24 5 (xgfR 18 0 (xcV 17 1 0 0 (zstr f_X1_cleart) j62)))) (xaldV 0 (xgfR 24 5 (xcV 18 1 0 0 (zstr f1) (xif0S teqR rlEq rhEq rlNe rhNe (xpI 4294967295 (xist 2 j62)) (xaldV 0 (xgfR 24 5 (xgfR 18 1 (xpI 0 (xaaT (xpI 0 (xaldV 0 (xgfR 24 2 (xild 1 (xaaT (xpI 0 (xpI 11 (xcpy 2 72 (xpI 0 (xist 2 (cX8_textt_57 f1 P j62)))))))))))))))))))))))))))
set_option maxRecDepth 100000 in
set_option maxHeartbeats 4000000 in
theorem s_X8_textt {d : Nat} [zGh] (n1 : Nat) (f1 : List zV → zH d → zP d → Bool) (hf1 : zMet X_X2_read yX2_read n1 f1) (P : zP d) : zSim X_X8_text (n1 + 2) P 0 (b_X8_textt f1 P) := by
  unfold b_X8_textt
  refine sm_bipush (pc := 0) dX8_text_0 zc_b_m2 ?_
  refine sm_istore_n (pc := 2) (n := 2) dX8_text_2 rfl ?_
  refine sm_iload_n (pc := 3) (n := 1) dX8_text_3 rfl ?_
  refine sm_cS (pc := 4) (n := 1) (mc := 0) (ms := 0) (zMet_str m_X8_isSlott) (cr_X8_88 (X := X_X8_text) (fr := n1 + 2) (frc := 1) (pc := 4) (mc := 0) (ms := 0) rfl (by omega) dX8_text_4) ?_
  refine sm_joinJ (pc := 7) (pc' := 62) (j := 1) (fun G0 hG0 => @sbX8_textt_62 d G0 n1 f1 hf1 P) (fun j62 hj62 => ?_)
  refine sm_ifS_ne (pc := 7) (tgt := 23) dX8_text_7 (by decide) ?_ ?_
  · skip
    refine sm_aloadV_n (pc := 23) (n := 0) dX8_text_23 rfl ?_
    refine gf_X8_60 (pc := 24) rfl dX8_text_24 ?_
    refine sm_cV (pc := 27) (ci := 2) (n := 1) (mc := 0) (ms := 0) rfl (zMet_str hf1) (cr_X8_100 (X := X_X8_text) (fr := n1 + 2) (frc := n1) (pc := 27) (mc := 0) (ms := 0) rfl (by omega) dX8_text_27) ?_
    refine sm_ifS_eq (pc := 30) (tgt := 60) dX8_text_30 (by decide) ?_ ?_
    · skip
      refine sm_iconst (pc := 60) dX8_text_60 zc_i_m1 ?_
      refine sm_istore_n (pc := 61) (n := 2) dX8_text_61 rfl ?_
      exact hj62.use
    · skip
      refine sm_aloadV_n (pc := 33) (n := 0) dX8_text_33 rfl ?_
      refine gf_X8_60 (pc := 34) rfl dX8_text_34 ?_
      refine gf_X8_104 (pc := 37) rfl dX8_text_37 ?_
      refine sm_iconst (pc := 40) dX8_text_40 zc_i_0 ?_
      refine sm_aaloadT (pc := 41) dX8_text_41 ?_
      refine sm_iconst (pc := 42) dX8_text_42 zc_i_0 ?_
      refine sm_aloadV_n (pc := 43) (n := 0) dX8_text_43 rfl ?_
      refine gf_X8_23 (pc := 44) rfl dX8_text_44 ?_
      refine sm_iload_n (pc := 47) (n := 1) dX8_text_47 rfl ?_
      refine sm_aaloadT (pc := 48) dX8_text_48 ?_
      refine sm_iconst (pc := 49) dX8_text_49 zc_i_0 ?_
      refine sm_bipush (pc := 50) dX8_text_50 zc_b_11 ?_
      refine sm_copyJ (pc := 52) wd_771 wd_80 wd_79 wd_7 (by omega) dX8_text_52 ?_
      refine sm_iconst (pc := 55) dX8_text_55 zc_i_0 ?_
      refine sm_istore_n (pc := 56) (n := 2) dX8_text_56 rfl ?_
      exact scX8_textt_57 n1 f1 hf1 P j62 hj62
  · skip
    refine sm_aloadV_n (pc := 10) (n := 0) dX8_text_10 rfl ?_
    refine gf_X8_60 (pc := 11) rfl dX8_text_11 ?_
    refine gf_X8_91 (pc := 14) rfl dX8_text_14 ?_
    refine sm_cV (pc := 17) (ci := 1) (n := 1) (mc := 0) (ms := 0) rfl (zMet_str m_X1_cleart) (cr_X8_95 (X := X_X8_text) (fr := n1 + 2) (frc := 1) (pc := 17) (mc := 0) (ms := 0) rfl (by omega) dX8_text_17) ?_
    refine sm_goto (pc := 20) (tgt := 62) dX8_text_20 (by decide) ?_
    exact hj62.use
noncomputable def f_X8_textt {d : Nat} (f1 : List zV → zH d → zP d → Bool) : List zV → zH d → zP d → Bool := zfn 3 (b_X8_textt f1 )
theorem m_X8_textt {d : Nat} (n1 : Nat) (f1 : List zV → zH d → zP d → Bool) (hf1 : zMet X_X2_read yX2_read n1 f1) : zMet (d := d) X_X8_text yX8_text (n1 + 2) (f_X8_textt f1 ) := zmet_mk (X := X_X8_text) (by decide) rfl rfl (fun P => s_X8_textt n1 f1 hf1 P)
end
section
/-! the class's reader at n = 12: by program -/
noncomputable def zk_99_zs2_59_z12_readC_0 : zC := (24, 8, 0x80000000088000000007000000000200000000038000000004000000001d80000000028000000001)
noncomputable def zk_99_zs2_59_z12_readC_1 : zT 1 := @Prod.mk (zT 0) (zT 0) zk_99_zs2_59_z12_readC_0 (18, 15, 0x1000000c9000000002d0000000024000000001d0000000003010000000001000000c9000000001c000000001b000000001a00000000190000000013000000000d00000000070000000005)
noncomputable def zk_99_zs2_59_z12_readC_2 : zT 1 := @Prod.mk (zT 0) (zT 0) (22, 2, 0x1000000c90000000004) (0, 200, zun 40 200 4294967296)
noncomputable def zk_99_zs2_59_z12_readC_3 : zT 1 := @Prod.mk (zT 0) (zT 0) (4, 5, 0xc000000000b000000000a00000000090000000008) (2, 11, zun 72 11 18446744073709551616)
noncomputable def zk_99_zs2_59_z12_readC_4 : zT 2 := @Prod.mk (zT 1) (zT 1) ((17, 4, 0x100000010000000000601000000000100000000), (0, 15, zun 40 15 4294967296)) zk_99_zs2_59_z12_readC_3
noncomputable def zk_99_zs2_59_z12_readC_5 : zT 1 := @Prod.mk (zT 0) (zT 0) (2, 11, zun 72 11 18446744073709551616) (2, 11, zun 72 11 18446744073709551616)
noncomputable def zk_99_zs2_59_z12_readC_6 : zT 3 := @Prod.mk (zT 2) (zT 2) (zk_99_zs2_59_z12_readC_5, zk_99_zs2_59_z12_readC_5) (((4, 5, 0x1200000000110000000010000000000f000000000e), (2, 11, zun 72 11 18446744073709551616)), zk_99_zs2_59_z12_readC_5)
noncomputable def zk_99_zs2_59_z12_readC_7 : zT 4 := @Prod.mk (zT 3) (zT 3) ((zk_99_zs2_59_z12_readC_5, ((4, 5, 0x180000000017000000001600000000150000000014), (2, 11, zun 72 11 18446744073709551616))), (zk_99_zs2_59_z12_readC_5, zk_99_zs2_59_z12_readC_5)) ((((0, 5, 0x1000000000100000000010000000001000000000100000000), (0, 5, 0x1000000000100000000010000000001000000000100000000)), ((0, 5, 0x1000000000100000000010000000001000000000100000000), (0, 6, 0x10000000001000000000100000000010000000001000000000100000000))), (((4, 6, 0x23000000002200000000210000000020000000001f000000001e), (2, 11, zun 72 11 18446744073709551616)), zk_99_zs2_59_z12_readC_5))
noncomputable def zk_99_zs2_59_z12_readC_8 : zT 5 := @Prod.mk (zT 4) (zT 4) (((zk_99_zs2_59_z12_readC_5, ((2, 11, zun 72 11 18446744073709551616), (23, 14, 0x80000008ce0000000029000000002b80000008cb80000008ca80000008c9000000002880000008c780000008c680000008c5000000002580000008c3000000000180000008c1))), (((5, 1, 0x26), (20, 16, 0x8000000950800000094f800000094e800000094d800000094c800000094b800000094a800000094980000009488000000947800000094680000009458000000944000000002780000009428000000941)), ((0, 1, 1), (0, 1, 1)))), ((((3, 1, 0x2a), (0, 1, 0x100000000)), ((3, 1, 0x2c), (0, 1, 0x100000000))), (((21, 12, 0x8000000b0c8000000b0b00000000318000000b098000000b08000000002f8000000b068000000b058000000b04000000002e8000000b028000000b01), (0, 1, 0)), ((3, 1, 0x30), (0, 1, 0x100000000))))) (((((3, 1, 0x32), (0, 1, 0x100000000)), zO1), zO2), zO3)
noncomputable def hw_12 : zH 7 := (show zT 7 from ((((((zk_99_zs2_59_z12_readC_1, zk_99_zs2_59_z12_readC_2), zk_99_zs2_59_z12_readC_4), zk_99_zs2_59_z12_readC_6), zk_99_zs2_59_z12_readC_7), zk_99_zs2_59_z12_readC_8), zO6), (50, (0, 0)))
noncomputable def zk_99_zs2_59_z12_readC_9 : zT 2 := @Prod.mk (zT 1) (zT 1) (zk_99_zs2_59_z12_readC_0, (18, 15, 0x1000000c8000000002d0000000024000000001d0000000003010000000001000000c9000000001c000000001b000000001a00000000190000000013000000000d00000000070000000005)) zk_99_zs2_59_z12_readC_2
noncomputable def hv_12 : zH 7 := (show zT 7 from (((((zk_99_zs2_59_z12_readC_9, zk_99_zs2_59_z12_readC_4), zk_99_zs2_59_z12_readC_6), zk_99_zs2_59_z12_readC_7), zk_99_zs2_59_z12_readC_8), zO6), (50, (0, 0)))
noncomputable def hs_X2_add_12 : zH 2 := (show zT 2 from (((18, 15, 0x800000000f800000000e0000000002800000000c800000000b800000000a800000000980000000088000000007800000000680000000058000000004800000000380000000028000000001), (23, 14, 0x800000004e800000004d800000004c800000004b800000004a800000004980000000488000000047800000004680000000458000000044800000004300000000018000000041)), zk_99_zs2_59_z12_readC_5), (4, (0, 0)))
noncomputable def hs_X2_add_12_o0 : zH 2 := (show zT 2 from (((18, 15, 0x800000000f800000000e0000000002800000000c800000000b800000000a800000000980000000088000000007800000000680000000058000000004800000000380000000028000000001), (23, 14, 0x800000004e800000004d800000004c800000004b800000004a800000004980000000488000000047800000004680000000458000000044800000004300000000018000000041)), zk_99_zs2_59_z12_readC_5), (4, (0, 0)))
noncomputable def hs_X2_add_12_o1 : zH 2 := (show zT 2 from (((18, 15, 0x800000000f800000000e0000000002800000000c800000000b800000000a800000000980000000088000000007800000000680000000058000000004800000000380000000028000000001), (23, 14, 0x800000004e800000004d800000004c800000004b800000004a800000004980000000488000000047800000004680000000458000000044800000004300000000018000000041)), zk_99_zs2_59_z12_readC_5), (4, (0, 0)))
set_option maxRecDepth 100000 in
theorem ev_X2_add_12 : f_X2_addt [zR 1, zR 3, zI 4294967298, zR 4] hs_X2_add_12 (zrkL [(zI 0, hs_X2_add_12_o0), (zI 1, hs_X2_add_12_o1)]) = true := by decide +kernel
noncomputable def g_X2_add_12 {d : Nat} : List zV → zH d → zP d → Bool := zsmyL [(0, 0), (1, 12), (0, 1), (0, 3)] [zR 1, zR 3, zI 4294967298, zR 4] hs_X2_add_12 [(zI 0, hs_X2_add_12_o0), (zI 1, hs_X2_add_12_o1)]
theorem mg_X2_add_12 {d : Nat} : zMet (d := d) X_X2_add yX2_add 1 g_X2_add_12 := zMet_smL m_X2_addt ev_X2_add_12

noncomputable def hs_X2_multiply_12 : zH 2 := (show zT 2 from (((18, 15, 0x800000000f800000000e0000000002800000000c800000000b800000000a800000000980000000088000000007800000000680000000058000000004800000000380000000028000000001), (23, 14, 0x800000004e800000004d800000004c800000004b800000004a800000004980000000488000000047800000004680000000458000000044800000004300000000018000000041)), zk_99_zs2_59_z12_readC_5), (4, (0, 0)))
noncomputable def hs_X2_multiply_12_o0 : zH 2 := (show zT 2 from (((18, 15, 0x800000000f800000000e0000000002800000000c800000000b800000000a800000000980000000088000000007800000000680000000058000000004800000000380000000028000000001), (23, 14, 0x800000004e800000004d800000004c800000004b800000004a800000004980000000488000000047800000004680000000458000000044800000004300000000018000000041)), zk_99_zs2_59_z12_readC_5), (4, (0, 0)))
noncomputable def hs_X2_multiply_12_o1 : zH 2 := (show zT 2 from (((18, 15, 0x800000000f800000000e0000000002800000000c800000000b800000000a800000000980000000088000000007800000000680000000058000000004800000000380000000028000000001), (23, 14, 0x800000004e800000004d800000004c800000004b800000004a800000004980000000488000000047800000004680000000458000000044800000004300000000018000000041)), zk_99_zs2_59_z12_readC_5), (4, (0, 0)))
set_option maxRecDepth 100000 in
theorem ev_X2_multiply_12 : f_X2_multiplyt [zR 1, zR 3, zR 4] hs_X2_multiply_12 (zrkL [(zI 0, hs_X2_multiply_12_o0), (zI 1, hs_X2_multiply_12_o1)]) = true := by decide +kernel
noncomputable def g_X2_multiply_12 {d : Nat} : List zV → zH d → zP d → Bool := zsmyL [(0, 0), (1, 12), (0, 1), (0, 2)] [zR 1, zR 3, zR 4] hs_X2_multiply_12 [(zI 0, hs_X2_multiply_12_o0), (zI 1, hs_X2_multiply_12_o1)]
theorem mg_X2_multiply_12 {d : Nat} : zMet (d := d) X_X2_multiply yX2_multiply 1 g_X2_multiply_12 := zMet_smL m_X2_multiplyt ev_X2_multiply_12

set_option maxRecDepth 100000 in
theorem e_cO12_0 : f_X7_numberOft [zR 36, zR 28, zI 4294967497] hw_12 (zrkL [(zI 4294967295, hw_12), (zI 0, hw_12)]) = true := by decide +kernel
noncomputable def g_cO12_0 : List zV → zH 7 → zP 7 → Bool := zocs [zR 36, zR 28, zI 4294967497] hw_12 [(zI 4294967295, hw_12), (zI 0, hw_12)]
theorem m_cO12_0 : zMet X_X7_numberOf yX7_numberOf 1 g_cO12_0 := zMet_oc (m_X7_numberOft) e_cO12_0
noncomputable def h_cK12_4_o0 : zH 7 := (show zT 7 from ((((((zk_99_zs2_59_z12_readC_1, zk_99_zs2_59_z12_readC_2), (((17, 4, 0xf000000000601000000000000000002), (0, 15, zun 40 15 4294967296)), zk_99_zs2_59_z12_readC_3)), zk_99_zs2_59_z12_readC_6), zk_99_zs2_59_z12_readC_7), zk_99_zs2_59_z12_readC_8), zO6), (50, (0, 0)))
set_option maxRecDepth 100000 in
theorem e_cK12_4 : (f_X2_takeCharactert g_cO12_0) [zR 2, zI 4, zI 4294967296] hw_12 (zrkL [(zI 0, h_cK12_4_o0), (zI 1, hw_12)]) = true := by decide +kernel
noncomputable def g_cK12_4 : List zV → zH 7 → zP 7 → Bool := zocs [zR 2, zI 4, zI 4294967296] hw_12 [(zI 0, h_cK12_4_o0), (zI 1, hw_12)]
theorem m_cK12_4 : zMet X_X2_takeCharacter yX2_takeCharacter 4 g_cK12_4 := zMet_oc (m_X2_takeCharactert _ _ m_cO12_0) e_cK12_4
set_option maxRecDepth 100000 in
theorem e_cL12_4 : f_X2_readSlott [zR 2, zI 4] hw_12 (zrkL [(zI 0, hw_12), (zI 1, hw_12)]) = true := by decide +kernel
noncomputable def g_cL12_4 : List zV → zH 7 → zP 7 → Bool := zocs [zR 2, zI 4] hw_12 [(zI 0, hw_12), (zI 1, hw_12)]
theorem m_cL12_4 : zMet X_X2_readSlot yX2_readSlot 3 g_cL12_4 := zMet_oc (m_X2_readSlott) e_cL12_4
noncomputable def h_cB12_4_o0 : zH 7 := (show zT 7 from (((((zk_99_zs2_59_z12_readC_9, (((17, 4, 0xf000000000601000000c80000000005), (0, 15, zun 40 15 4294967296)), zk_99_zs2_59_z12_readC_3)), zk_99_zs2_59_z12_readC_6), zk_99_zs2_59_z12_readC_7), zk_99_zs2_59_z12_readC_8), zO6), (50, (0, 0)))
set_option maxRecDepth 100000 in
theorem e_cB12_4 : (f_X2_readInBracketst (fun _ _ _ => false)) [zR 2, zI 4] hv_12 (zrkL [(zI 0, h_cB12_4_o0)]) = true := by decide +kernel
noncomputable def g_cB12_4 : List zV → zH 7 → zP 7 → Bool := zocs [zR 2, zI 4] hv_12 [(zI 0, h_cB12_4_o0)]
theorem m_cB12_4 : zMet X_X2_readInBrackets yX2_readInBrackets 3 g_cB12_4 := zMet_oc (m_X2_readInBracketst 0 _ zfalse) e_cB12_4
set_option maxRecDepth 100000 in
theorem e_cF12_4 : (f_X2_readFactort g_cB12_4 g_cL12_4 g_cK12_4) [zR 2, zI 4] hw_12 (zrkL [(zI 0, hw_12), (zI 1, hw_12)]) = true := by decide +kernel
noncomputable def g_cF12_4 : List zV → zH 7 → zP 7 → Bool := zocs [zR 2, zI 4] hw_12 [(zI 0, hw_12), (zI 1, hw_12)]
theorem m_cF12_4 : zMet X_X2_readFactor yX2_readFactor 14 g_cF12_4 := zMet_oc (m_X2_readFactort _ _ _ _ _ _ m_cB12_4 m_cL12_4 m_cK12_4) e_cF12_4
set_option maxRecDepth 100000 in
theorem e_cT12_4 : (f_X2_readTermt g_cF12_4 g_X2_multiply_12) [zR 2, zI 4] hw_12 (zrkL [(zI 0, hw_12), (zI 1, hw_12)]) = true := by decide +kernel
noncomputable def g_cT12_4 : List zV → zH 7 → zP 7 → Bool := zocs [zR 2, zI 4] hw_12 [(zI 0, hw_12), (zI 1, hw_12)]
theorem m_cT12_4 : zMet X_X2_readTerm yX2_readTerm 18 g_cT12_4 := zMet_oc (m_X2_readTermt _ _ _ _ m_cF12_4 mg_X2_multiply_12) e_cT12_4
set_option maxRecDepth 100000 in
theorem e_cS12_4 : (f_X2_readSumt g_cT12_4 g_X2_add_12) [zR 2, zI 4] hw_12 (zrkL [(zI 0, hw_12), (zI 1, hw_12)]) = true := by decide +kernel
noncomputable def g_cS12_4 : List zV → zH 7 → zP 7 → Bool := zocs [zR 2, zI 4] hw_12 [(zI 0, hw_12), (zI 1, hw_12)]
theorem m_cS12_4 : zMet X_X2_readSum yX2_readSum 22 g_cS12_4 := zMet_oc (m_X2_readSumt _ _ _ _ m_cT12_4 mg_X2_add_12) e_cS12_4
noncomputable def h_cK12_3_o0 : zH 7 := (show zT 7 from ((((((zk_99_zs2_59_z12_readC_1, zk_99_zs2_59_z12_readC_2), (((17, 4, 0xc000000000601000000000000000002), (0, 15, zun 40 15 4294967296)), zk_99_zs2_59_z12_readC_3)), zk_99_zs2_59_z12_readC_6), zk_99_zs2_59_z12_readC_7), zk_99_zs2_59_z12_readC_8), zO6), (50, (0, 0)))
set_option maxRecDepth 100000 in
theorem e_cK12_3 : (f_X2_takeCharactert g_cO12_0) [zR 2, zI 3, zI 4294967296] hw_12 (zrkL [(zI 0, h_cK12_3_o0), (zI 1, hw_12)]) = true := by decide +kernel
noncomputable def g_cK12_3 : List zV → zH 7 → zP 7 → Bool := zocs [zR 2, zI 3, zI 4294967296] hw_12 [(zI 0, h_cK12_3_o0), (zI 1, hw_12)]
theorem m_cK12_3 : zMet X_X2_takeCharacter yX2_takeCharacter 4 g_cK12_3 := zMet_oc (m_X2_takeCharactert _ _ m_cO12_0) e_cK12_3
set_option maxRecDepth 100000 in
theorem e_cL12_3 : f_X2_readSlott [zR 2, zI 3] hw_12 (zrkL [(zI 0, hw_12), (zI 1, hw_12)]) = true := by decide +kernel
noncomputable def g_cL12_3 : List zV → zH 7 → zP 7 → Bool := zocs [zR 2, zI 3] hw_12 [(zI 0, hw_12), (zI 1, hw_12)]
theorem m_cL12_3 : zMet X_X2_readSlot yX2_readSlot 3 g_cL12_3 := zMet_oc (m_X2_readSlott) e_cL12_3
set_option maxRecDepth 100000 in
theorem e_cB12_3 : (f_X2_readInBracketst g_cS12_4) [zR 2, zI 3] hv_12 (zrkL [(zI 0, hw_12), (zI 1, hw_12)]) = true := by decide +kernel
noncomputable def g_cB12_3 : List zV → zH 7 → zP 7 → Bool := zocs [zR 2, zI 3] hv_12 [(zI 0, hw_12), (zI 1, hw_12)]
theorem m_cB12_3 : zMet X_X2_readInBrackets yX2_readInBrackets 25 g_cB12_3 := zMet_oc (m_X2_readInBracketst 22 _ m_cS12_4) e_cB12_3
set_option maxRecDepth 100000 in
theorem e_cF12_3 : (f_X2_readFactort g_cB12_3 g_cL12_3 g_cK12_3) [zR 2, zI 3] hw_12 (zrkL [(zI 0, hw_12), (zI 1, hw_12)]) = true := by decide +kernel
noncomputable def g_cF12_3 : List zV → zH 7 → zP 7 → Bool := zocs [zR 2, zI 3] hw_12 [(zI 0, hw_12), (zI 1, hw_12)]
theorem m_cF12_3 : zMet X_X2_readFactor yX2_readFactor 36 g_cF12_3 := zMet_oc (m_X2_readFactort _ _ _ _ _ _ m_cB12_3 m_cL12_3 m_cK12_3) e_cF12_3
set_option maxRecDepth 100000 in
theorem e_cT12_3 : (f_X2_readTermt g_cF12_3 g_X2_multiply_12) [zR 2, zI 3] hw_12 (zrkL [(zI 0, hw_12), (zI 1, hw_12)]) = true := by decide +kernel
noncomputable def g_cT12_3 : List zV → zH 7 → zP 7 → Bool := zocs [zR 2, zI 3] hw_12 [(zI 0, hw_12), (zI 1, hw_12)]
theorem m_cT12_3 : zMet X_X2_readTerm yX2_readTerm 40 g_cT12_3 := zMet_oc (m_X2_readTermt _ _ _ _ m_cF12_3 mg_X2_multiply_12) e_cT12_3
set_option maxRecDepth 100000 in
theorem e_cS12_3 : (f_X2_readSumt g_cT12_3 g_X2_add_12) [zR 2, zI 3] hw_12 (zrkL [(zI 0, hw_12), (zI 1, hw_12)]) = true := by decide +kernel
noncomputable def g_cS12_3 : List zV → zH 7 → zP 7 → Bool := zocs [zR 2, zI 3] hw_12 [(zI 0, hw_12), (zI 1, hw_12)]
theorem m_cS12_3 : zMet X_X2_readSum yX2_readSum 44 g_cS12_3 := zMet_oc (m_X2_readSumt _ _ _ _ m_cT12_3 mg_X2_add_12) e_cS12_3
noncomputable def h_cK12_2_o0 : zH 7 := (show zT 7 from ((((((zk_99_zs2_59_z12_readC_1, zk_99_zs2_59_z12_readC_2), (((17, 4, 0x9000000000601000000000000000002), (0, 15, zun 40 15 4294967296)), zk_99_zs2_59_z12_readC_3)), zk_99_zs2_59_z12_readC_6), zk_99_zs2_59_z12_readC_7), zk_99_zs2_59_z12_readC_8), zO6), (50, (0, 0)))
set_option maxRecDepth 100000 in
theorem e_cK12_2 : (f_X2_takeCharactert g_cO12_0) [zR 2, zI 2, zI 4294967296] hw_12 (zrkL [(zI 0, h_cK12_2_o0), (zI 1, hw_12)]) = true := by decide +kernel
noncomputable def g_cK12_2 : List zV → zH 7 → zP 7 → Bool := zocs [zR 2, zI 2, zI 4294967296] hw_12 [(zI 0, h_cK12_2_o0), (zI 1, hw_12)]
theorem m_cK12_2 : zMet X_X2_takeCharacter yX2_takeCharacter 4 g_cK12_2 := zMet_oc (m_X2_takeCharactert _ _ m_cO12_0) e_cK12_2
set_option maxRecDepth 100000 in
theorem e_cL12_2 : f_X2_readSlott [zR 2, zI 2] hw_12 (zrkL [(zI 0, hw_12), (zI 1, hw_12)]) = true := by decide +kernel
noncomputable def g_cL12_2 : List zV → zH 7 → zP 7 → Bool := zocs [zR 2, zI 2] hw_12 [(zI 0, hw_12), (zI 1, hw_12)]
theorem m_cL12_2 : zMet X_X2_readSlot yX2_readSlot 3 g_cL12_2 := zMet_oc (m_X2_readSlott) e_cL12_2
set_option maxRecDepth 100000 in
theorem e_cB12_2 : (f_X2_readInBracketst g_cS12_3) [zR 2, zI 2] hv_12 (zrkL [(zI 0, hw_12), (zI 1, hw_12)]) = true := by decide +kernel
noncomputable def g_cB12_2 : List zV → zH 7 → zP 7 → Bool := zocs [zR 2, zI 2] hv_12 [(zI 0, hw_12), (zI 1, hw_12)]
theorem m_cB12_2 : zMet X_X2_readInBrackets yX2_readInBrackets 47 g_cB12_2 := zMet_oc (m_X2_readInBracketst 44 _ m_cS12_3) e_cB12_2
set_option maxRecDepth 100000 in
theorem e_cF12_2 : (f_X2_readFactort g_cB12_2 g_cL12_2 g_cK12_2) [zR 2, zI 2] hw_12 (zrkL [(zI 0, hw_12), (zI 1, hw_12)]) = true := by decide +kernel
noncomputable def g_cF12_2 : List zV → zH 7 → zP 7 → Bool := zocs [zR 2, zI 2] hw_12 [(zI 0, hw_12), (zI 1, hw_12)]
theorem m_cF12_2 : zMet X_X2_readFactor yX2_readFactor 58 g_cF12_2 := zMet_oc (m_X2_readFactort _ _ _ _ _ _ m_cB12_2 m_cL12_2 m_cK12_2) e_cF12_2
set_option maxRecDepth 100000 in
theorem e_cT12_2 : (f_X2_readTermt g_cF12_2 g_X2_multiply_12) [zR 2, zI 2] hw_12 (zrkL [(zI 0, hw_12), (zI 1, hw_12)]) = true := by decide +kernel
noncomputable def g_cT12_2 : List zV → zH 7 → zP 7 → Bool := zocs [zR 2, zI 2] hw_12 [(zI 0, hw_12), (zI 1, hw_12)]
theorem m_cT12_2 : zMet X_X2_readTerm yX2_readTerm 62 g_cT12_2 := zMet_oc (m_X2_readTermt _ _ _ _ m_cF12_2 mg_X2_multiply_12) e_cT12_2
set_option maxRecDepth 100000 in
theorem e_cS12_2 : (f_X2_readSumt g_cT12_2 g_X2_add_12) [zR 2, zI 2] hw_12 (zrkL [(zI 0, hw_12), (zI 1, hw_12)]) = true := by decide +kernel
noncomputable def g_cS12_2 : List zV → zH 7 → zP 7 → Bool := zocs [zR 2, zI 2] hw_12 [(zI 0, hw_12), (zI 1, hw_12)]
theorem m_cS12_2 : zMet X_X2_readSum yX2_readSum 66 g_cS12_2 := zMet_oc (m_X2_readSumt _ _ _ _ m_cT12_2 mg_X2_add_12) e_cS12_2
noncomputable def h_cK12_1_o0 : zH 7 := (show zT 7 from ((((((zk_99_zs2_59_z12_readC_1, zk_99_zs2_59_z12_readC_2), (((17, 4, 0x6000000000601000000000000000002), (0, 15, zun 40 15 4294967296)), zk_99_zs2_59_z12_readC_3)), zk_99_zs2_59_z12_readC_6), zk_99_zs2_59_z12_readC_7), zk_99_zs2_59_z12_readC_8), zO6), (50, (0, 0)))
set_option maxRecDepth 100000 in
theorem e_cK12_1 : (f_X2_takeCharactert g_cO12_0) [zR 2, zI 1, zI 4294967296] hw_12 (zrkL [(zI 0, h_cK12_1_o0), (zI 1, hw_12)]) = true := by decide +kernel
noncomputable def g_cK12_1 : List zV → zH 7 → zP 7 → Bool := zocs [zR 2, zI 1, zI 4294967296] hw_12 [(zI 0, h_cK12_1_o0), (zI 1, hw_12)]
theorem m_cK12_1 : zMet X_X2_takeCharacter yX2_takeCharacter 4 g_cK12_1 := zMet_oc (m_X2_takeCharactert _ _ m_cO12_0) e_cK12_1
set_option maxRecDepth 100000 in
theorem e_cL12_1 : f_X2_readSlott [zR 2, zI 1] hw_12 (zrkL [(zI 0, hw_12), (zI 1, hw_12)]) = true := by decide +kernel
noncomputable def g_cL12_1 : List zV → zH 7 → zP 7 → Bool := zocs [zR 2, zI 1] hw_12 [(zI 0, hw_12), (zI 1, hw_12)]
theorem m_cL12_1 : zMet X_X2_readSlot yX2_readSlot 3 g_cL12_1 := zMet_oc (m_X2_readSlott) e_cL12_1
set_option maxRecDepth 100000 in
theorem e_cB12_1 : (f_X2_readInBracketst g_cS12_2) [zR 2, zI 1] hv_12 (zrkL [(zI 0, hw_12), (zI 1, hw_12)]) = true := by decide +kernel
noncomputable def g_cB12_1 : List zV → zH 7 → zP 7 → Bool := zocs [zR 2, zI 1] hv_12 [(zI 0, hw_12), (zI 1, hw_12)]
theorem m_cB12_1 : zMet X_X2_readInBrackets yX2_readInBrackets 69 g_cB12_1 := zMet_oc (m_X2_readInBracketst 66 _ m_cS12_2) e_cB12_1
set_option maxRecDepth 100000 in
theorem e_cF12_1 : (f_X2_readFactort g_cB12_1 g_cL12_1 g_cK12_1) [zR 2, zI 1] hw_12 (zrkL [(zI 0, hw_12), (zI 1, hw_12)]) = true := by decide +kernel
noncomputable def g_cF12_1 : List zV → zH 7 → zP 7 → Bool := zocs [zR 2, zI 1] hw_12 [(zI 0, hw_12), (zI 1, hw_12)]
theorem m_cF12_1 : zMet X_X2_readFactor yX2_readFactor 80 g_cF12_1 := zMet_oc (m_X2_readFactort _ _ _ _ _ _ m_cB12_1 m_cL12_1 m_cK12_1) e_cF12_1
set_option maxRecDepth 100000 in
theorem e_cT12_1 : (f_X2_readTermt g_cF12_1 g_X2_multiply_12) [zR 2, zI 1] hw_12 (zrkL [(zI 0, hw_12), (zI 1, hw_12)]) = true := by decide +kernel
noncomputable def g_cT12_1 : List zV → zH 7 → zP 7 → Bool := zocs [zR 2, zI 1] hw_12 [(zI 0, hw_12), (zI 1, hw_12)]
theorem m_cT12_1 : zMet X_X2_readTerm yX2_readTerm 84 g_cT12_1 := zMet_oc (m_X2_readTermt _ _ _ _ m_cF12_1 mg_X2_multiply_12) e_cT12_1
set_option maxRecDepth 100000 in
theorem e_cS12_1 : (f_X2_readSumt g_cT12_1 g_X2_add_12) [zR 2, zI 1] hw_12 (zrkL [(zI 0, hw_12), (zI 1, hw_12)]) = true := by decide +kernel
noncomputable def g_cS12_1 : List zV → zH 7 → zP 7 → Bool := zocs [zR 2, zI 1] hw_12 [(zI 0, hw_12), (zI 1, hw_12)]
theorem m_cS12_1 : zMet X_X2_readSum yX2_readSum 88 g_cS12_1 := zMet_oc (m_X2_readSumt _ _ _ _ m_cT12_1 mg_X2_add_12) e_cS12_1
noncomputable def h_cK12_0_o0 : zH 7 := (show zT 7 from ((((((zk_99_zs2_59_z12_readC_1, zk_99_zs2_59_z12_readC_2), (((17, 4, 0x3000000000601000000000000000002), (0, 15, zun 40 15 4294967296)), zk_99_zs2_59_z12_readC_3)), zk_99_zs2_59_z12_readC_6), zk_99_zs2_59_z12_readC_7), zk_99_zs2_59_z12_readC_8), zO6), (50, (0, 0)))
set_option maxRecDepth 100000 in
theorem e_cK12_0 : (f_X2_takeCharactert g_cO12_0) [zR 2, zI 0, zI 4294967296] hw_12 (zrkL [(zI 0, h_cK12_0_o0), (zI 1, hw_12)]) = true := by decide +kernel
noncomputable def g_cK12_0 : List zV → zH 7 → zP 7 → Bool := zocs [zR 2, zI 0, zI 4294967296] hw_12 [(zI 0, h_cK12_0_o0), (zI 1, hw_12)]
theorem m_cK12_0 : zMet X_X2_takeCharacter yX2_takeCharacter 4 g_cK12_0 := zMet_oc (m_X2_takeCharactert _ _ m_cO12_0) e_cK12_0
set_option maxRecDepth 100000 in
theorem e_cL12_0 : f_X2_readSlott [zR 2, zI 0] hw_12 (zrkL [(zI 0, hw_12), (zI 1, hw_12)]) = true := by decide +kernel
noncomputable def g_cL12_0 : List zV → zH 7 → zP 7 → Bool := zocs [zR 2, zI 0] hw_12 [(zI 0, hw_12), (zI 1, hw_12)]
theorem m_cL12_0 : zMet X_X2_readSlot yX2_readSlot 3 g_cL12_0 := zMet_oc (m_X2_readSlott) e_cL12_0
set_option maxRecDepth 100000 in
theorem e_cB12_0 : (f_X2_readInBracketst g_cS12_1) [zR 2, zI 0] hv_12 (zrkL [(zI 0, hw_12), (zI 1, hw_12)]) = true := by decide +kernel
noncomputable def g_cB12_0 : List zV → zH 7 → zP 7 → Bool := zocs [zR 2, zI 0] hv_12 [(zI 0, hw_12), (zI 1, hw_12)]
theorem m_cB12_0 : zMet X_X2_readInBrackets yX2_readInBrackets 91 g_cB12_0 := zMet_oc (m_X2_readInBracketst 88 _ m_cS12_1) e_cB12_0
set_option maxRecDepth 100000 in
theorem e_cF12_0 : (f_X2_readFactort g_cB12_0 g_cL12_0 g_cK12_0) [zR 2, zI 0] hw_12 (zrkL [(zI 0, hw_12), (zI 1, hw_12)]) = true := by decide +kernel
noncomputable def g_cF12_0 : List zV → zH 7 → zP 7 → Bool := zocs [zR 2, zI 0] hw_12 [(zI 0, hw_12), (zI 1, hw_12)]
theorem m_cF12_0 : zMet X_X2_readFactor yX2_readFactor 102 g_cF12_0 := zMet_oc (m_X2_readFactort _ _ _ _ _ _ m_cB12_0 m_cL12_0 m_cK12_0) e_cF12_0
set_option maxRecDepth 100000 in
theorem e_cT12_0 : (f_X2_readTermt g_cF12_0 g_X2_multiply_12) [zR 2, zI 0] hw_12 (zrkL [(zI 0, hw_12), (zI 1, hw_12)]) = true := by decide +kernel
noncomputable def g_cT12_0 : List zV → zH 7 → zP 7 → Bool := zocs [zR 2, zI 0] hw_12 [(zI 0, hw_12), (zI 1, hw_12)]
theorem m_cT12_0 : zMet X_X2_readTerm yX2_readTerm 106 g_cT12_0 := zMet_oc (m_X2_readTermt _ _ _ _ m_cF12_0 mg_X2_multiply_12) e_cT12_0
set_option maxRecDepth 100000 in
theorem e_cS12_0 : (f_X2_readSumt g_cT12_0 g_X2_add_12) [zR 2, zI 0] hw_12 (zrkL [(zI 0, hw_12), (zI 1, hw_12)]) = true := by decide +kernel
noncomputable def g_cS12_0 : List zV → zH 7 → zP 7 → Bool := zocs [zR 2, zI 0] hw_12 [(zI 0, hw_12), (zI 1, hw_12)]
theorem m_cS12_0 : zMet X_X2_readSum yX2_readSum 110 g_cS12_0 := zMet_oc (m_X2_readSumt _ _ _ _ m_cT12_0 mg_X2_add_12) e_cS12_0
noncomputable def hw_12_t : zH 7 := (show zT 7 from ((((((zk_99_zs2_59_z12_readC_1, ((22, 2, 4), (0, 200, zun 40 200 4294967296))), zk_99_zs2_59_z12_readC_4), zk_99_zs2_59_z12_readC_6), zk_99_zs2_59_z12_readC_7), zk_99_zs2_59_z12_readC_8), zO6), (50, (0, 0)))
set_option maxRecDepth 100000 in
theorem e_textC_12 : (zcutR 1 6 (f_X8_textt (f_X2_readt g_cS12_0))) [zR 1, zI 4294967296] hw_12 (zrkL [(zI 4294967296, hw_12_t)]) = true := by decide +kernel
noncomputable def g_textC_12 {d : Nat} : List zV → zH d → zP d → Bool := zsmyL [(0, 0), (1, 5), (1, 4), (3, 0), (2, 0), (5, 2), (2, 1), (7, 0), (7, 1), (7, 2), (7, 3), (7, 4), (2, 2), (13, 0), (13, 1), (13, 2), (13, 3), (13, 4), (2, 3), (19, 0), (19, 1), (19, 2), (19, 3), (19, 4), (2, 4), (2, 5), (2, 6), (2, 7), (1, 2), (29, 0), (29, 1), (29, 2), (29, 3), (29, 4), (29, 5), (2, 12), (36, 3), (37, 0), (38, 2), (36, 7), (36, 12), (41, 0), (36, 11), (43, 0), (2, 13), (45, 2), (45, 6), (47, 0), (45, 9), (49, 0)] [zR 1, zI 4294967296] hw_12 [(zI 4294967296, hw_12_t)]
theorem m_textC_12 {d : Nat} : zMet (d := d) X_X8_text yX8_text 115 g_textC_12 := zMet_smL (zMet_cutR (m_X8_textt _ _ (m_X2_readt _ _ m_cS12_0))) e_textC_12
end
section
/-! the class's reader at n = 22: by program -/
noncomputable def zk_99_zs2_59_z22_readC_0 : zC := (24, 8, 0x80000000088000000007000000000200000000038000000004000000001d80000000028000000001)
noncomputable def zk_99_zs2_59_z22_readC_1 : zT 1 := @Prod.mk (zT 0) (zT 0) zk_99_zs2_59_z22_readC_0 (18, 15, 0x1000000c900000000310000000024000000001d0000000003010000000001000000c9000000001c000000001b000000001a00000000190000000013000000000d00000000070000000005)
noncomputable def zk_99_zs2_59_z22_readC_2 : zT 1 := @Prod.mk (zT 0) (zT 0) (22, 2, 0x1000000c90000000004) (0, 200, zun 40 200 4294967296)
noncomputable def zk_99_zs2_59_z22_readC_3 : zT 1 := @Prod.mk (zT 0) (zT 0) (4, 5, 0xc000000000b000000000a00000000090000000008) (2, 11, zun 72 11 18446744073709551616)
noncomputable def zk_99_zs2_59_z22_readC_4 : zT 2 := @Prod.mk (zT 1) (zT 1) ((17, 4, 0x100000010000000000601000000000100000000), (0, 15, zun 40 15 4294967296)) zk_99_zs2_59_z22_readC_3
noncomputable def zk_99_zs2_59_z22_readC_5 : zT 1 := @Prod.mk (zT 0) (zT 0) (2, 11, zun 72 11 18446744073709551616) (2, 11, zun 72 11 18446744073709551616)
noncomputable def zk_99_zs2_59_z22_readC_6 : zT 3 := @Prod.mk (zT 2) (zT 2) (zk_99_zs2_59_z22_readC_5, zk_99_zs2_59_z22_readC_5) (((4, 5, 0x1200000000110000000010000000000f000000000e), (2, 11, zun 72 11 18446744073709551616)), zk_99_zs2_59_z22_readC_5)
noncomputable def zk_99_zs2_59_z22_readC_7 : zT 4 := @Prod.mk (zT 3) (zT 3) ((zk_99_zs2_59_z22_readC_5, ((4, 5, 0x180000000017000000001600000000150000000014), (2, 11, zun 72 11 18446744073709551616))), (zk_99_zs2_59_z22_readC_5, zk_99_zs2_59_z22_readC_5)) ((((0, 5, 0x1000000000100000000010000000001000000000100000000), (0, 5, 0x1000000000100000000010000000001000000000100000000)), ((0, 5, 0x1000000000100000000010000000001000000000100000000), (0, 6, 0x10000000001000000000100000000010000000001000000000100000000))), (((4, 6, 0x23000000002200000000210000000020000000001f000000001e), (2, 11, zun 72 11 18446744073709551616)), zk_99_zs2_59_z22_readC_5))
noncomputable def zk_99_zs2_59_z22_readC_8 : zT 1 := @Prod.mk (zT 0) (zT 0) (0, 2, 0x1000000000100000000) (0, 2, 0x1000000000100000000)
noncomputable def zk_99_zs2_59_z22_readC_9 : zT 5 := @Prod.mk (zT 4) (zT 4) (((zk_99_zs2_59_z22_readC_5, ((2, 11, zun 72 11 18446744073709551616), (23, 14, 0x80000008ce000000002b000000002e80000008cb80000008ca80000008c9000000002a80000008c780000008c680000008c5000000002580000008c3000000000280000008c1))), (((5, 2, 0x270000000026), (20, 16, 0x8000000950800000094f800000094e800000094d800000094c800000094b800000094a800000094980000009488000000947800000094680000009458000000944000000002880000009428000000941)), ((20, 16, 0x8000000990800000098f800000098e800000098d800000098c800000098b800000098a800000098980000009888000000987800000098680000009858000000984000000002980000009828000000981), (0, 1, 2)))), ((((0, 2, 0x10000000001), (0, 2, 0x100ffffffff)), ((3, 2, 0x2d000000002c), (0, 2, 0x1000000000100000000))), (((0, 2, 0x1000000000100000000), (3, 2, 0x30000000002f)), zk_99_zs2_59_z22_readC_8))) (((((21, 12, 0x8000000c0c8000000c0b00000000368000000c098000000c0800000000338000000c068000000c058000000c0400000000328000000c028000000c01), (0, 2, 0xffffffff0000000000)), ((3, 2, 0x350000000034), (0, 2, 0x1000000000100000000))), (((0, 2, 0x1000000000100000000), (3, 2, 0x380000000037)), zk_99_zs2_59_z22_readC_8)), zO3)
noncomputable def hw_22 : zH 7 := (show zT 7 from ((((((zk_99_zs2_59_z22_readC_1, zk_99_zs2_59_z22_readC_2), zk_99_zs2_59_z22_readC_4), zk_99_zs2_59_z22_readC_6), zk_99_zs2_59_z22_readC_7), zk_99_zs2_59_z22_readC_9), zO6), (56, (0, 0)))
noncomputable def zk_99_zs2_59_z22_readC_10 : zT 2 := @Prod.mk (zT 1) (zT 1) (zk_99_zs2_59_z22_readC_0, (18, 15, 0x1000000c800000000310000000024000000001d0000000003010000000001000000c9000000001c000000001b000000001a00000000190000000013000000000d00000000070000000005)) zk_99_zs2_59_z22_readC_2
noncomputable def hv_22 : zH 7 := (show zT 7 from (((((zk_99_zs2_59_z22_readC_10, zk_99_zs2_59_z22_readC_4), zk_99_zs2_59_z22_readC_6), zk_99_zs2_59_z22_readC_7), zk_99_zs2_59_z22_readC_9), zO6), (56, (0, 0)))
noncomputable def hs_X2_add_22 : zH 2 := (show zT 2 from (((18, 15, 0x800000000f800000000e0000000002800000000c800000000b800000000a800000000980000000088000000007800000000680000000058000000004800000000380000000028000000001), (23, 14, 0x800000004e800000004d800000004c800000004b800000004a800000004980000000488000000047800000004680000000458000000044800000004300000000028000000041)), zk_99_zs2_59_z22_readC_5), (4, (0, 0)))
noncomputable def hs_X2_add_22_o0 : zH 2 := (show zT 2 from (((18, 15, 0x800000000f800000000e0000000002800000000c800000000b800000000a800000000980000000088000000007800000000680000000058000000004800000000380000000028000000001), (23, 14, 0x800000004e800000004d800000004c800000004b800000004a800000004980000000488000000047800000004680000000458000000044800000004300000000028000000041)), zk_99_zs2_59_z22_readC_5), (4, (0, 0)))
noncomputable def hs_X2_add_22_o1 : zH 2 := (show zT 2 from (((18, 15, 0x800000000f800000000e0000000002800000000c800000000b800000000a800000000980000000088000000007800000000680000000058000000004800000000380000000028000000001), (23, 14, 0x800000004e800000004d800000004c800000004b800000004a800000004980000000488000000047800000004680000000458000000044800000004300000000028000000041)), zk_99_zs2_59_z22_readC_5), (4, (0, 0)))
set_option maxRecDepth 100000 in
theorem ev_X2_add_22 : f_X2_addt [zR 1, zR 3, zI 4294967298, zR 4] hs_X2_add_22 (zrkL [(zI 0, hs_X2_add_22_o0), (zI 1, hs_X2_add_22_o1)]) = true := by decide +kernel
noncomputable def g_X2_add_22 {d : Nat} : List zV → zH d → zP d → Bool := zsmyL [(0, 0), (1, 12), (0, 1), (0, 3)] [zR 1, zR 3, zI 4294967298, zR 4] hs_X2_add_22 [(zI 0, hs_X2_add_22_o0), (zI 1, hs_X2_add_22_o1)]
theorem mg_X2_add_22 {d : Nat} : zMet (d := d) X_X2_add yX2_add 1 g_X2_add_22 := zMet_smL m_X2_addt ev_X2_add_22

noncomputable def hs_X2_multiply_22 : zH 2 := (show zT 2 from (((18, 15, 0x800000000f800000000e0000000002800000000c800000000b800000000a800000000980000000088000000007800000000680000000058000000004800000000380000000028000000001), (23, 14, 0x800000004e800000004d800000004c800000004b800000004a800000004980000000488000000047800000004680000000458000000044800000004300000000028000000041)), zk_99_zs2_59_z22_readC_5), (4, (0, 0)))
noncomputable def hs_X2_multiply_22_o0 : zH 2 := (show zT 2 from (((18, 15, 0x800000000f800000000e0000000002800000000c800000000b800000000a800000000980000000088000000007800000000680000000058000000004800000000380000000028000000001), (23, 14, 0x800000004e800000004d800000004c800000004b800000004a800000004980000000488000000047800000004680000000458000000044800000004300000000028000000041)), zk_99_zs2_59_z22_readC_5), (4, (0, 0)))
noncomputable def hs_X2_multiply_22_o1 : zH 2 := (show zT 2 from (((18, 15, 0x800000000f800000000e0000000002800000000c800000000b800000000a800000000980000000088000000007800000000680000000058000000004800000000380000000028000000001), (23, 14, 0x800000004e800000004d800000004c800000004b800000004a800000004980000000488000000047800000004680000000458000000044800000004300000000028000000041)), zk_99_zs2_59_z22_readC_5), (4, (0, 0)))
set_option maxRecDepth 100000 in
theorem ev_X2_multiply_22 : f_X2_multiplyt [zR 1, zR 3, zR 4] hs_X2_multiply_22 (zrkL [(zI 0, hs_X2_multiply_22_o0), (zI 1, hs_X2_multiply_22_o1)]) = true := by decide +kernel
noncomputable def g_X2_multiply_22 {d : Nat} : List zV → zH d → zP d → Bool := zsmyL [(0, 0), (1, 12), (0, 1), (0, 2)] [zR 1, zR 3, zR 4] hs_X2_multiply_22 [(zI 0, hs_X2_multiply_22_o0), (zI 1, hs_X2_multiply_22_o1)]
theorem mg_X2_multiply_22 {d : Nat} : zMet (d := d) X_X2_multiply yX2_multiply 1 g_X2_multiply_22 := zMet_smL m_X2_multiplyt ev_X2_multiply_22

set_option maxRecDepth 100000 in
theorem e_cO22_0 : f_X7_numberOft [zR 36, zR 28, zI 4294967497] hw_22 (zrkL [(zI 4294967295, hw_22), (zI 4294967298, hw_22)]) = true := by decide +kernel
noncomputable def g_cO22_0 : List zV → zH 7 → zP 7 → Bool := zocs [zR 36, zR 28, zI 4294967497] hw_22 [(zI 4294967295, hw_22), (zI 4294967298, hw_22)]
theorem m_cO22_0 : zMet X_X7_numberOf yX7_numberOf 1 g_cO22_0 := zMet_oc (m_X7_numberOft) e_cO22_0
noncomputable def h_cK22_4_o0 : zH 7 := (show zT 7 from ((((((zk_99_zs2_59_z22_readC_1, zk_99_zs2_59_z22_readC_2), (((17, 4, 0xf000000000601000000000100000004), (0, 15, zun 40 15 4294967296)), zk_99_zs2_59_z22_readC_3)), zk_99_zs2_59_z22_readC_6), zk_99_zs2_59_z22_readC_7), zk_99_zs2_59_z22_readC_9), zO6), (56, (0, 0)))
set_option maxRecDepth 100000 in
theorem e_cK22_4 : (f_X2_takeCharactert g_cO22_0) [zR 2, zI 4, zI 4294967296] hw_22 (zrkL [(zI 0, h_cK22_4_o0), (zI 1, hw_22)]) = true := by decide +kernel
noncomputable def g_cK22_4 : List zV → zH 7 → zP 7 → Bool := zocs [zR 2, zI 4, zI 4294967296] hw_22 [(zI 0, h_cK22_4_o0), (zI 1, hw_22)]
theorem m_cK22_4 : zMet X_X2_takeCharacter yX2_takeCharacter 4 g_cK22_4 := zMet_oc (m_X2_takeCharactert _ _ m_cO22_0) e_cK22_4
set_option maxRecDepth 100000 in
theorem e_cL22_4 : f_X2_readSlott [zR 2, zI 4] hw_22 (zrkL [(zI 0, hw_22), (zI 1, hw_22)]) = true := by decide +kernel
noncomputable def g_cL22_4 : List zV → zH 7 → zP 7 → Bool := zocs [zR 2, zI 4] hw_22 [(zI 0, hw_22), (zI 1, hw_22)]
theorem m_cL22_4 : zMet X_X2_readSlot yX2_readSlot 3 g_cL22_4 := zMet_oc (m_X2_readSlott) e_cL22_4
noncomputable def h_cB22_4_o0 : zH 7 := (show zT 7 from (((((zk_99_zs2_59_z22_readC_10, (((17, 4, 0xf000000000601000000c80000000005), (0, 15, zun 40 15 4294967296)), zk_99_zs2_59_z22_readC_3)), zk_99_zs2_59_z22_readC_6), zk_99_zs2_59_z22_readC_7), zk_99_zs2_59_z22_readC_9), zO6), (56, (0, 0)))
set_option maxRecDepth 100000 in
theorem e_cB22_4 : (f_X2_readInBracketst (fun _ _ _ => false)) [zR 2, zI 4] hv_22 (zrkL [(zI 0, h_cB22_4_o0)]) = true := by decide +kernel
noncomputable def g_cB22_4 : List zV → zH 7 → zP 7 → Bool := zocs [zR 2, zI 4] hv_22 [(zI 0, h_cB22_4_o0)]
theorem m_cB22_4 : zMet X_X2_readInBrackets yX2_readInBrackets 3 g_cB22_4 := zMet_oc (m_X2_readInBracketst 0 _ zfalse) e_cB22_4
set_option maxRecDepth 100000 in
theorem e_cF22_4 : (f_X2_readFactort g_cB22_4 g_cL22_4 g_cK22_4) [zR 2, zI 4] hw_22 (zrkL [(zI 0, hw_22), (zI 1, hw_22)]) = true := by decide +kernel
noncomputable def g_cF22_4 : List zV → zH 7 → zP 7 → Bool := zocs [zR 2, zI 4] hw_22 [(zI 0, hw_22), (zI 1, hw_22)]
theorem m_cF22_4 : zMet X_X2_readFactor yX2_readFactor 14 g_cF22_4 := zMet_oc (m_X2_readFactort _ _ _ _ _ _ m_cB22_4 m_cL22_4 m_cK22_4) e_cF22_4
set_option maxRecDepth 100000 in
theorem e_cT22_4 : (f_X2_readTermt g_cF22_4 g_X2_multiply_22) [zR 2, zI 4] hw_22 (zrkL [(zI 0, hw_22), (zI 1, hw_22)]) = true := by decide +kernel
noncomputable def g_cT22_4 : List zV → zH 7 → zP 7 → Bool := zocs [zR 2, zI 4] hw_22 [(zI 0, hw_22), (zI 1, hw_22)]
theorem m_cT22_4 : zMet X_X2_readTerm yX2_readTerm 18 g_cT22_4 := zMet_oc (m_X2_readTermt _ _ _ _ m_cF22_4 mg_X2_multiply_22) e_cT22_4
set_option maxRecDepth 100000 in
theorem e_cS22_4 : (f_X2_readSumt g_cT22_4 g_X2_add_22) [zR 2, zI 4] hw_22 (zrkL [(zI 0, hw_22), (zI 1, hw_22)]) = true := by decide +kernel
noncomputable def g_cS22_4 : List zV → zH 7 → zP 7 → Bool := zocs [zR 2, zI 4] hw_22 [(zI 0, hw_22), (zI 1, hw_22)]
theorem m_cS22_4 : zMet X_X2_readSum yX2_readSum 22 g_cS22_4 := zMet_oc (m_X2_readSumt _ _ _ _ m_cT22_4 mg_X2_add_22) e_cS22_4
noncomputable def h_cK22_3_o0 : zH 7 := (show zT 7 from ((((((zk_99_zs2_59_z22_readC_1, zk_99_zs2_59_z22_readC_2), (((17, 4, 0xc000000000601000000000100000004), (0, 15, zun 40 15 4294967296)), zk_99_zs2_59_z22_readC_3)), zk_99_zs2_59_z22_readC_6), zk_99_zs2_59_z22_readC_7), zk_99_zs2_59_z22_readC_9), zO6), (56, (0, 0)))
set_option maxRecDepth 100000 in
theorem e_cK22_3 : (f_X2_takeCharactert g_cO22_0) [zR 2, zI 3, zI 4294967296] hw_22 (zrkL [(zI 0, h_cK22_3_o0), (zI 1, hw_22)]) = true := by decide +kernel
noncomputable def g_cK22_3 : List zV → zH 7 → zP 7 → Bool := zocs [zR 2, zI 3, zI 4294967296] hw_22 [(zI 0, h_cK22_3_o0), (zI 1, hw_22)]
theorem m_cK22_3 : zMet X_X2_takeCharacter yX2_takeCharacter 4 g_cK22_3 := zMet_oc (m_X2_takeCharactert _ _ m_cO22_0) e_cK22_3
set_option maxRecDepth 100000 in
theorem e_cL22_3 : f_X2_readSlott [zR 2, zI 3] hw_22 (zrkL [(zI 0, hw_22), (zI 1, hw_22)]) = true := by decide +kernel
noncomputable def g_cL22_3 : List zV → zH 7 → zP 7 → Bool := zocs [zR 2, zI 3] hw_22 [(zI 0, hw_22), (zI 1, hw_22)]
theorem m_cL22_3 : zMet X_X2_readSlot yX2_readSlot 3 g_cL22_3 := zMet_oc (m_X2_readSlott) e_cL22_3
set_option maxRecDepth 100000 in
theorem e_cB22_3 : (f_X2_readInBracketst g_cS22_4) [zR 2, zI 3] hv_22 (zrkL [(zI 0, hw_22), (zI 1, hw_22)]) = true := by decide +kernel
noncomputable def g_cB22_3 : List zV → zH 7 → zP 7 → Bool := zocs [zR 2, zI 3] hv_22 [(zI 0, hw_22), (zI 1, hw_22)]
theorem m_cB22_3 : zMet X_X2_readInBrackets yX2_readInBrackets 25 g_cB22_3 := zMet_oc (m_X2_readInBracketst 22 _ m_cS22_4) e_cB22_3
set_option maxRecDepth 100000 in
theorem e_cF22_3 : (f_X2_readFactort g_cB22_3 g_cL22_3 g_cK22_3) [zR 2, zI 3] hw_22 (zrkL [(zI 0, hw_22), (zI 1, hw_22)]) = true := by decide +kernel
noncomputable def g_cF22_3 : List zV → zH 7 → zP 7 → Bool := zocs [zR 2, zI 3] hw_22 [(zI 0, hw_22), (zI 1, hw_22)]
theorem m_cF22_3 : zMet X_X2_readFactor yX2_readFactor 36 g_cF22_3 := zMet_oc (m_X2_readFactort _ _ _ _ _ _ m_cB22_3 m_cL22_3 m_cK22_3) e_cF22_3
set_option maxRecDepth 100000 in
theorem e_cT22_3 : (f_X2_readTermt g_cF22_3 g_X2_multiply_22) [zR 2, zI 3] hw_22 (zrkL [(zI 0, hw_22), (zI 1, hw_22)]) = true := by decide +kernel
noncomputable def g_cT22_3 : List zV → zH 7 → zP 7 → Bool := zocs [zR 2, zI 3] hw_22 [(zI 0, hw_22), (zI 1, hw_22)]
theorem m_cT22_3 : zMet X_X2_readTerm yX2_readTerm 40 g_cT22_3 := zMet_oc (m_X2_readTermt _ _ _ _ m_cF22_3 mg_X2_multiply_22) e_cT22_3
set_option maxRecDepth 100000 in
theorem e_cS22_3 : (f_X2_readSumt g_cT22_3 g_X2_add_22) [zR 2, zI 3] hw_22 (zrkL [(zI 0, hw_22), (zI 1, hw_22)]) = true := by decide +kernel
noncomputable def g_cS22_3 : List zV → zH 7 → zP 7 → Bool := zocs [zR 2, zI 3] hw_22 [(zI 0, hw_22), (zI 1, hw_22)]
theorem m_cS22_3 : zMet X_X2_readSum yX2_readSum 44 g_cS22_3 := zMet_oc (m_X2_readSumt _ _ _ _ m_cT22_3 mg_X2_add_22) e_cS22_3
noncomputable def h_cK22_2_o0 : zH 7 := (show zT 7 from ((((((zk_99_zs2_59_z22_readC_1, zk_99_zs2_59_z22_readC_2), (((17, 4, 0x9000000000601000000000100000004), (0, 15, zun 40 15 4294967296)), zk_99_zs2_59_z22_readC_3)), zk_99_zs2_59_z22_readC_6), zk_99_zs2_59_z22_readC_7), zk_99_zs2_59_z22_readC_9), zO6), (56, (0, 0)))
set_option maxRecDepth 100000 in
theorem e_cK22_2 : (f_X2_takeCharactert g_cO22_0) [zR 2, zI 2, zI 4294967296] hw_22 (zrkL [(zI 0, h_cK22_2_o0), (zI 1, hw_22)]) = true := by decide +kernel
noncomputable def g_cK22_2 : List zV → zH 7 → zP 7 → Bool := zocs [zR 2, zI 2, zI 4294967296] hw_22 [(zI 0, h_cK22_2_o0), (zI 1, hw_22)]
theorem m_cK22_2 : zMet X_X2_takeCharacter yX2_takeCharacter 4 g_cK22_2 := zMet_oc (m_X2_takeCharactert _ _ m_cO22_0) e_cK22_2
set_option maxRecDepth 100000 in
theorem e_cL22_2 : f_X2_readSlott [zR 2, zI 2] hw_22 (zrkL [(zI 0, hw_22), (zI 1, hw_22)]) = true := by decide +kernel
noncomputable def g_cL22_2 : List zV → zH 7 → zP 7 → Bool := zocs [zR 2, zI 2] hw_22 [(zI 0, hw_22), (zI 1, hw_22)]
theorem m_cL22_2 : zMet X_X2_readSlot yX2_readSlot 3 g_cL22_2 := zMet_oc (m_X2_readSlott) e_cL22_2
set_option maxRecDepth 100000 in
theorem e_cB22_2 : (f_X2_readInBracketst g_cS22_3) [zR 2, zI 2] hv_22 (zrkL [(zI 0, hw_22), (zI 1, hw_22)]) = true := by decide +kernel
noncomputable def g_cB22_2 : List zV → zH 7 → zP 7 → Bool := zocs [zR 2, zI 2] hv_22 [(zI 0, hw_22), (zI 1, hw_22)]
theorem m_cB22_2 : zMet X_X2_readInBrackets yX2_readInBrackets 47 g_cB22_2 := zMet_oc (m_X2_readInBracketst 44 _ m_cS22_3) e_cB22_2
set_option maxRecDepth 100000 in
theorem e_cF22_2 : (f_X2_readFactort g_cB22_2 g_cL22_2 g_cK22_2) [zR 2, zI 2] hw_22 (zrkL [(zI 0, hw_22), (zI 1, hw_22)]) = true := by decide +kernel
noncomputable def g_cF22_2 : List zV → zH 7 → zP 7 → Bool := zocs [zR 2, zI 2] hw_22 [(zI 0, hw_22), (zI 1, hw_22)]
theorem m_cF22_2 : zMet X_X2_readFactor yX2_readFactor 58 g_cF22_2 := zMet_oc (m_X2_readFactort _ _ _ _ _ _ m_cB22_2 m_cL22_2 m_cK22_2) e_cF22_2
set_option maxRecDepth 100000 in
theorem e_cT22_2 : (f_X2_readTermt g_cF22_2 g_X2_multiply_22) [zR 2, zI 2] hw_22 (zrkL [(zI 0, hw_22), (zI 1, hw_22)]) = true := by decide +kernel
noncomputable def g_cT22_2 : List zV → zH 7 → zP 7 → Bool := zocs [zR 2, zI 2] hw_22 [(zI 0, hw_22), (zI 1, hw_22)]
theorem m_cT22_2 : zMet X_X2_readTerm yX2_readTerm 62 g_cT22_2 := zMet_oc (m_X2_readTermt _ _ _ _ m_cF22_2 mg_X2_multiply_22) e_cT22_2
set_option maxRecDepth 100000 in
theorem e_cS22_2 : (f_X2_readSumt g_cT22_2 g_X2_add_22) [zR 2, zI 2] hw_22 (zrkL [(zI 0, hw_22), (zI 1, hw_22)]) = true := by decide +kernel
noncomputable def g_cS22_2 : List zV → zH 7 → zP 7 → Bool := zocs [zR 2, zI 2] hw_22 [(zI 0, hw_22), (zI 1, hw_22)]
theorem m_cS22_2 : zMet X_X2_readSum yX2_readSum 66 g_cS22_2 := zMet_oc (m_X2_readSumt _ _ _ _ m_cT22_2 mg_X2_add_22) e_cS22_2
noncomputable def h_cK22_1_o0 : zH 7 := (show zT 7 from ((((((zk_99_zs2_59_z22_readC_1, zk_99_zs2_59_z22_readC_2), (((17, 4, 0x6000000000601000000000100000004), (0, 15, zun 40 15 4294967296)), zk_99_zs2_59_z22_readC_3)), zk_99_zs2_59_z22_readC_6), zk_99_zs2_59_z22_readC_7), zk_99_zs2_59_z22_readC_9), zO6), (56, (0, 0)))
set_option maxRecDepth 100000 in
theorem e_cK22_1 : (f_X2_takeCharactert g_cO22_0) [zR 2, zI 1, zI 4294967296] hw_22 (zrkL [(zI 0, h_cK22_1_o0), (zI 1, hw_22)]) = true := by decide +kernel
noncomputable def g_cK22_1 : List zV → zH 7 → zP 7 → Bool := zocs [zR 2, zI 1, zI 4294967296] hw_22 [(zI 0, h_cK22_1_o0), (zI 1, hw_22)]
theorem m_cK22_1 : zMet X_X2_takeCharacter yX2_takeCharacter 4 g_cK22_1 := zMet_oc (m_X2_takeCharactert _ _ m_cO22_0) e_cK22_1
set_option maxRecDepth 100000 in
theorem e_cL22_1 : f_X2_readSlott [zR 2, zI 1] hw_22 (zrkL [(zI 0, hw_22), (zI 1, hw_22)]) = true := by decide +kernel
noncomputable def g_cL22_1 : List zV → zH 7 → zP 7 → Bool := zocs [zR 2, zI 1] hw_22 [(zI 0, hw_22), (zI 1, hw_22)]
theorem m_cL22_1 : zMet X_X2_readSlot yX2_readSlot 3 g_cL22_1 := zMet_oc (m_X2_readSlott) e_cL22_1
set_option maxRecDepth 100000 in
theorem e_cB22_1 : (f_X2_readInBracketst g_cS22_2) [zR 2, zI 1] hv_22 (zrkL [(zI 0, hw_22), (zI 1, hw_22)]) = true := by decide +kernel
noncomputable def g_cB22_1 : List zV → zH 7 → zP 7 → Bool := zocs [zR 2, zI 1] hv_22 [(zI 0, hw_22), (zI 1, hw_22)]
theorem m_cB22_1 : zMet X_X2_readInBrackets yX2_readInBrackets 69 g_cB22_1 := zMet_oc (m_X2_readInBracketst 66 _ m_cS22_2) e_cB22_1
set_option maxRecDepth 100000 in
theorem e_cF22_1 : (f_X2_readFactort g_cB22_1 g_cL22_1 g_cK22_1) [zR 2, zI 1] hw_22 (zrkL [(zI 0, hw_22), (zI 1, hw_22)]) = true := by decide +kernel
noncomputable def g_cF22_1 : List zV → zH 7 → zP 7 → Bool := zocs [zR 2, zI 1] hw_22 [(zI 0, hw_22), (zI 1, hw_22)]
theorem m_cF22_1 : zMet X_X2_readFactor yX2_readFactor 80 g_cF22_1 := zMet_oc (m_X2_readFactort _ _ _ _ _ _ m_cB22_1 m_cL22_1 m_cK22_1) e_cF22_1
set_option maxRecDepth 100000 in
theorem e_cT22_1 : (f_X2_readTermt g_cF22_1 g_X2_multiply_22) [zR 2, zI 1] hw_22 (zrkL [(zI 0, hw_22), (zI 1, hw_22)]) = true := by decide +kernel
noncomputable def g_cT22_1 : List zV → zH 7 → zP 7 → Bool := zocs [zR 2, zI 1] hw_22 [(zI 0, hw_22), (zI 1, hw_22)]
theorem m_cT22_1 : zMet X_X2_readTerm yX2_readTerm 84 g_cT22_1 := zMet_oc (m_X2_readTermt _ _ _ _ m_cF22_1 mg_X2_multiply_22) e_cT22_1
set_option maxRecDepth 100000 in
theorem e_cS22_1 : (f_X2_readSumt g_cT22_1 g_X2_add_22) [zR 2, zI 1] hw_22 (zrkL [(zI 0, hw_22), (zI 1, hw_22)]) = true := by decide +kernel
noncomputable def g_cS22_1 : List zV → zH 7 → zP 7 → Bool := zocs [zR 2, zI 1] hw_22 [(zI 0, hw_22), (zI 1, hw_22)]
theorem m_cS22_1 : zMet X_X2_readSum yX2_readSum 88 g_cS22_1 := zMet_oc (m_X2_readSumt _ _ _ _ m_cT22_1 mg_X2_add_22) e_cS22_1
noncomputable def h_cK22_0_o0 : zH 7 := (show zT 7 from ((((((zk_99_zs2_59_z22_readC_1, zk_99_zs2_59_z22_readC_2), (((17, 4, 0x3000000000601000000000100000004), (0, 15, zun 40 15 4294967296)), zk_99_zs2_59_z22_readC_3)), zk_99_zs2_59_z22_readC_6), zk_99_zs2_59_z22_readC_7), zk_99_zs2_59_z22_readC_9), zO6), (56, (0, 0)))
set_option maxRecDepth 100000 in
theorem e_cK22_0 : (f_X2_takeCharactert g_cO22_0) [zR 2, zI 0, zI 4294967296] hw_22 (zrkL [(zI 0, h_cK22_0_o0), (zI 1, hw_22)]) = true := by decide +kernel
noncomputable def g_cK22_0 : List zV → zH 7 → zP 7 → Bool := zocs [zR 2, zI 0, zI 4294967296] hw_22 [(zI 0, h_cK22_0_o0), (zI 1, hw_22)]
theorem m_cK22_0 : zMet X_X2_takeCharacter yX2_takeCharacter 4 g_cK22_0 := zMet_oc (m_X2_takeCharactert _ _ m_cO22_0) e_cK22_0
set_option maxRecDepth 100000 in
theorem e_cL22_0 : f_X2_readSlott [zR 2, zI 0] hw_22 (zrkL [(zI 0, hw_22), (zI 1, hw_22)]) = true := by decide +kernel
noncomputable def g_cL22_0 : List zV → zH 7 → zP 7 → Bool := zocs [zR 2, zI 0] hw_22 [(zI 0, hw_22), (zI 1, hw_22)]
theorem m_cL22_0 : zMet X_X2_readSlot yX2_readSlot 3 g_cL22_0 := zMet_oc (m_X2_readSlott) e_cL22_0
set_option maxRecDepth 100000 in
theorem e_cB22_0 : (f_X2_readInBracketst g_cS22_1) [zR 2, zI 0] hv_22 (zrkL [(zI 0, hw_22), (zI 1, hw_22)]) = true := by decide +kernel
noncomputable def g_cB22_0 : List zV → zH 7 → zP 7 → Bool := zocs [zR 2, zI 0] hv_22 [(zI 0, hw_22), (zI 1, hw_22)]
theorem m_cB22_0 : zMet X_X2_readInBrackets yX2_readInBrackets 91 g_cB22_0 := zMet_oc (m_X2_readInBracketst 88 _ m_cS22_1) e_cB22_0
set_option maxRecDepth 100000 in
theorem e_cF22_0 : (f_X2_readFactort g_cB22_0 g_cL22_0 g_cK22_0) [zR 2, zI 0] hw_22 (zrkL [(zI 0, hw_22), (zI 1, hw_22)]) = true := by decide +kernel
noncomputable def g_cF22_0 : List zV → zH 7 → zP 7 → Bool := zocs [zR 2, zI 0] hw_22 [(zI 0, hw_22), (zI 1, hw_22)]
theorem m_cF22_0 : zMet X_X2_readFactor yX2_readFactor 102 g_cF22_0 := zMet_oc (m_X2_readFactort _ _ _ _ _ _ m_cB22_0 m_cL22_0 m_cK22_0) e_cF22_0
set_option maxRecDepth 100000 in
theorem e_cT22_0 : (f_X2_readTermt g_cF22_0 g_X2_multiply_22) [zR 2, zI 0] hw_22 (zrkL [(zI 0, hw_22), (zI 1, hw_22)]) = true := by decide +kernel
noncomputable def g_cT22_0 : List zV → zH 7 → zP 7 → Bool := zocs [zR 2, zI 0] hw_22 [(zI 0, hw_22), (zI 1, hw_22)]
theorem m_cT22_0 : zMet X_X2_readTerm yX2_readTerm 106 g_cT22_0 := zMet_oc (m_X2_readTermt _ _ _ _ m_cF22_0 mg_X2_multiply_22) e_cT22_0
set_option maxRecDepth 100000 in
theorem e_cS22_0 : (f_X2_readSumt g_cT22_0 g_X2_add_22) [zR 2, zI 0] hw_22 (zrkL [(zI 0, hw_22), (zI 1, hw_22)]) = true := by decide +kernel
noncomputable def g_cS22_0 : List zV → zH 7 → zP 7 → Bool := zocs [zR 2, zI 0] hw_22 [(zI 0, hw_22), (zI 1, hw_22)]
theorem m_cS22_0 : zMet X_X2_readSum yX2_readSum 110 g_cS22_0 := zMet_oc (m_X2_readSumt _ _ _ _ m_cT22_0 mg_X2_add_22) e_cS22_0
noncomputable def hw_22_t : zH 7 := (show zT 7 from ((((((zk_99_zs2_59_z22_readC_1, ((22, 2, 4), (0, 200, zun 40 200 4294967296))), zk_99_zs2_59_z22_readC_4), zk_99_zs2_59_z22_readC_6), zk_99_zs2_59_z22_readC_7), zk_99_zs2_59_z22_readC_9), zO6), (56, (0, 0)))
set_option maxRecDepth 100000 in
theorem e_textC_22 : (zcutR 1 6 (f_X8_textt (f_X2_readt g_cS22_0))) [zR 1, zI 4294967296] hw_22 (zrkL [(zI 4294967296, hw_22_t)]) = true := by decide +kernel
noncomputable def g_textC_22 {d : Nat} : List zV → zH d → zP d → Bool := zsmyL [(0, 0), (1, 5), (1, 4), (3, 0), (2, 0), (5, 2), (2, 1), (7, 0), (7, 1), (7, 2), (7, 3), (7, 4), (2, 2), (13, 0), (13, 1), (13, 2), (13, 3), (13, 4), (2, 3), (19, 0), (19, 1), (19, 2), (19, 3), (19, 4), (2, 4), (2, 5), (2, 6), (2, 7), (1, 2), (29, 0), (29, 1), (29, 2), (29, 3), (29, 4), (29, 5), (2, 12), (36, 3), (37, 0), (37, 1), (38, 2), (39, 2), (36, 7), (36, 12), (43, 0), (43, 1), (36, 11), (46, 0), (46, 1), (2, 13), (49, 2), (49, 6), (51, 0), (51, 1), (49, 9), (54, 0), (54, 1)] [zR 1, zI 4294967296] hw_22 [(zI 4294967296, hw_22_t)]
theorem m_textC_22 {d : Nat} : zMet (d := d) X_X8_text yX8_text 115 g_textC_22 := zMet_smL (zMet_cutR (m_X8_textt _ _ (m_X2_readt _ _ m_cS22_0))) e_textC_22
end
section
/-! the class's reader at n = 23: by program -/
noncomputable def zk_99_zs2_59_z23_readC_0 : zC := (24, 8, 0x80000000088000000007000000000200000000038000000004000000001d80000000028000000001)
noncomputable def zk_99_zs2_59_z23_readC_1 : zT 1 := @Prod.mk (zT 0) (zT 0) zk_99_zs2_59_z23_readC_0 (18, 15, 0x1000000c900000000310000000024000000001d0000000003010000000001000000c9000000001c000000001b000000001a00000000190000000013000000000d00000000070000000005)
noncomputable def zk_99_zs2_59_z23_readC_2 : zT 1 := @Prod.mk (zT 0) (zT 0) (22, 2, 0x1000000c90000000004) (0, 200, zun 40 200 4294967296)
noncomputable def zk_99_zs2_59_z23_readC_3 : zT 1 := @Prod.mk (zT 0) (zT 0) (4, 5, 0xc000000000b000000000a00000000090000000008) (2, 11, zun 72 11 18446744073709551616)
noncomputable def zk_99_zs2_59_z23_readC_4 : zT 2 := @Prod.mk (zT 1) (zT 1) ((17, 4, 0x100000010000000000601000000000100000000), (0, 15, zun 40 15 4294967296)) zk_99_zs2_59_z23_readC_3
noncomputable def zk_99_zs2_59_z23_readC_5 : zT 1 := @Prod.mk (zT 0) (zT 0) (2, 11, zun 72 11 18446744073709551616) (2, 11, zun 72 11 18446744073709551616)
noncomputable def zk_99_zs2_59_z23_readC_6 : zT 3 := @Prod.mk (zT 2) (zT 2) (zk_99_zs2_59_z23_readC_5, zk_99_zs2_59_z23_readC_5) (((4, 5, 0x1200000000110000000010000000000f000000000e), (2, 11, zun 72 11 18446744073709551616)), zk_99_zs2_59_z23_readC_5)
noncomputable def zk_99_zs2_59_z23_readC_7 : zT 4 := @Prod.mk (zT 3) (zT 3) ((zk_99_zs2_59_z23_readC_5, ((4, 5, 0x180000000017000000001600000000150000000014), (2, 11, zun 72 11 18446744073709551616))), (zk_99_zs2_59_z23_readC_5, zk_99_zs2_59_z23_readC_5)) ((((0, 5, 0x1000000000100000000010000000001000000000100000000), (0, 5, 0x1000000000100000000010000000001000000000100000000)), ((0, 5, 0x1000000000100000000010000000001000000000100000000), (0, 6, 0x10000000001000000000100000000010000000001000000000100000000))), (((4, 6, 0x23000000002200000000210000000020000000001f000000001e), (2, 11, zun 72 11 18446744073709551616)), zk_99_zs2_59_z23_readC_5))
noncomputable def zk_99_zs2_59_z23_readC_8 : zT 1 := @Prod.mk (zT 0) (zT 0) (0, 2, 0x1000000000100000000) (0, 2, 0x1000000000100000000)
noncomputable def zk_99_zs2_59_z23_readC_9 : zT 5 := @Prod.mk (zT 4) (zT 4) (((zk_99_zs2_59_z23_readC_5, ((2, 11, zun 72 11 18446744073709551616), (23, 14, 0x80000008ce000000002b000000002e80000008cb80000008ca80000008c9000000002a80000008c780000008c680000008c5000000002580000008c3000000000280000008c1))), (((5, 2, 0x270000000026), (20, 16, 0x8000000950800000094f800000094e800000094d800000094c800000094b800000094a800000094980000009488000000947800000094680000009458000000944000000002880000009428000000941)), ((20, 16, 0x8000000990800000098f800000098e800000098d800000098c800000098b800000098a800000098980000009888000000987800000098680000009858000000984000000002980000009828000000981), (0, 1, 2)))), ((((0, 2, 0x10000000001), (0, 2, 0x100ffffffff)), ((3, 2, 0x2d000000002c), (0, 2, 0x1000000000100000000))), (((0, 2, 0x1000000000100000000), (3, 2, 0x30000000002f)), zk_99_zs2_59_z23_readC_8))) (((((21, 12, 0x8000000c0c8000000c0b00000000368000000c098000000c0800000000338000000c068000000c058000000c0400000000328000000c028000000c01), (0, 2, 0x10000000000)), ((3, 2, 0x350000000034), (0, 2, 0x1000000000100000000))), (((0, 2, 0x1000000000100000000), (3, 2, 0x380000000037)), zk_99_zs2_59_z23_readC_8)), zO3)
noncomputable def hw_23 : zH 7 := (show zT 7 from ((((((zk_99_zs2_59_z23_readC_1, zk_99_zs2_59_z23_readC_2), zk_99_zs2_59_z23_readC_4), zk_99_zs2_59_z23_readC_6), zk_99_zs2_59_z23_readC_7), zk_99_zs2_59_z23_readC_9), zO6), (56, (0, 0)))
noncomputable def zk_99_zs2_59_z23_readC_10 : zT 2 := @Prod.mk (zT 1) (zT 1) (zk_99_zs2_59_z23_readC_0, (18, 15, 0x1000000c800000000310000000024000000001d0000000003010000000001000000c9000000001c000000001b000000001a00000000190000000013000000000d00000000070000000005)) zk_99_zs2_59_z23_readC_2
noncomputable def hv_23 : zH 7 := (show zT 7 from (((((zk_99_zs2_59_z23_readC_10, zk_99_zs2_59_z23_readC_4), zk_99_zs2_59_z23_readC_6), zk_99_zs2_59_z23_readC_7), zk_99_zs2_59_z23_readC_9), zO6), (56, (0, 0)))
noncomputable def hs_X2_add_23 : zH 2 := (show zT 2 from (((18, 15, 0x800000000f800000000e0000000002800000000c800000000b800000000a800000000980000000088000000007800000000680000000058000000004800000000380000000028000000001), (23, 14, 0x800000004e800000004d800000004c800000004b800000004a800000004980000000488000000047800000004680000000458000000044800000004300000000028000000041)), zk_99_zs2_59_z23_readC_5), (4, (0, 0)))
noncomputable def hs_X2_add_23_o0 : zH 2 := (show zT 2 from (((18, 15, 0x800000000f800000000e0000000002800000000c800000000b800000000a800000000980000000088000000007800000000680000000058000000004800000000380000000028000000001), (23, 14, 0x800000004e800000004d800000004c800000004b800000004a800000004980000000488000000047800000004680000000458000000044800000004300000000028000000041)), zk_99_zs2_59_z23_readC_5), (4, (0, 0)))
noncomputable def hs_X2_add_23_o1 : zH 2 := (show zT 2 from (((18, 15, 0x800000000f800000000e0000000002800000000c800000000b800000000a800000000980000000088000000007800000000680000000058000000004800000000380000000028000000001), (23, 14, 0x800000004e800000004d800000004c800000004b800000004a800000004980000000488000000047800000004680000000458000000044800000004300000000028000000041)), zk_99_zs2_59_z23_readC_5), (4, (0, 0)))
set_option maxRecDepth 100000 in
theorem ev_X2_add_23 : f_X2_addt [zR 1, zR 3, zI 4294967298, zR 4] hs_X2_add_23 (zrkL [(zI 0, hs_X2_add_23_o0), (zI 1, hs_X2_add_23_o1)]) = true := by decide +kernel
noncomputable def g_X2_add_23 {d : Nat} : List zV → zH d → zP d → Bool := zsmyL [(0, 0), (1, 12), (0, 1), (0, 3)] [zR 1, zR 3, zI 4294967298, zR 4] hs_X2_add_23 [(zI 0, hs_X2_add_23_o0), (zI 1, hs_X2_add_23_o1)]
theorem mg_X2_add_23 {d : Nat} : zMet (d := d) X_X2_add yX2_add 1 g_X2_add_23 := zMet_smL m_X2_addt ev_X2_add_23

noncomputable def hs_X2_multiply_23 : zH 2 := (show zT 2 from (((18, 15, 0x800000000f800000000e0000000002800000000c800000000b800000000a800000000980000000088000000007800000000680000000058000000004800000000380000000028000000001), (23, 14, 0x800000004e800000004d800000004c800000004b800000004a800000004980000000488000000047800000004680000000458000000044800000004300000000028000000041)), zk_99_zs2_59_z23_readC_5), (4, (0, 0)))
noncomputable def hs_X2_multiply_23_o0 : zH 2 := (show zT 2 from (((18, 15, 0x800000000f800000000e0000000002800000000c800000000b800000000a800000000980000000088000000007800000000680000000058000000004800000000380000000028000000001), (23, 14, 0x800000004e800000004d800000004c800000004b800000004a800000004980000000488000000047800000004680000000458000000044800000004300000000028000000041)), zk_99_zs2_59_z23_readC_5), (4, (0, 0)))
noncomputable def hs_X2_multiply_23_o1 : zH 2 := (show zT 2 from (((18, 15, 0x800000000f800000000e0000000002800000000c800000000b800000000a800000000980000000088000000007800000000680000000058000000004800000000380000000028000000001), (23, 14, 0x800000004e800000004d800000004c800000004b800000004a800000004980000000488000000047800000004680000000458000000044800000004300000000028000000041)), zk_99_zs2_59_z23_readC_5), (4, (0, 0)))
set_option maxRecDepth 100000 in
theorem ev_X2_multiply_23 : f_X2_multiplyt [zR 1, zR 3, zR 4] hs_X2_multiply_23 (zrkL [(zI 0, hs_X2_multiply_23_o0), (zI 1, hs_X2_multiply_23_o1)]) = true := by decide +kernel
noncomputable def g_X2_multiply_23 {d : Nat} : List zV → zH d → zP d → Bool := zsmyL [(0, 0), (1, 12), (0, 1), (0, 2)] [zR 1, zR 3, zR 4] hs_X2_multiply_23 [(zI 0, hs_X2_multiply_23_o0), (zI 1, hs_X2_multiply_23_o1)]
theorem mg_X2_multiply_23 {d : Nat} : zMet (d := d) X_X2_multiply yX2_multiply 1 g_X2_multiply_23 := zMet_smL m_X2_multiplyt ev_X2_multiply_23

set_option maxRecDepth 100000 in
theorem e_cO23_0 : f_X7_numberOft [zR 36, zR 28, zI 4294967497] hw_23 (zrkL [(zI 4294967295, hw_23), (zI 4294967298, hw_23)]) = true := by decide +kernel
noncomputable def g_cO23_0 : List zV → zH 7 → zP 7 → Bool := zocs [zR 36, zR 28, zI 4294967497] hw_23 [(zI 4294967295, hw_23), (zI 4294967298, hw_23)]
theorem m_cO23_0 : zMet X_X7_numberOf yX7_numberOf 1 g_cO23_0 := zMet_oc (m_X7_numberOft) e_cO23_0
noncomputable def h_cK23_4_o0 : zH 7 := (show zT 7 from ((((((zk_99_zs2_59_z23_readC_1, zk_99_zs2_59_z23_readC_2), (((17, 4, 0xf000000000601000000000000000002), (0, 15, zun 40 15 4294967296)), zk_99_zs2_59_z23_readC_3)), zk_99_zs2_59_z23_readC_6), zk_99_zs2_59_z23_readC_7), zk_99_zs2_59_z23_readC_9), zO6), (56, (0, 0)))
set_option maxRecDepth 100000 in
theorem e_cK23_4 : (f_X2_takeCharactert g_cO23_0) [zR 2, zI 4, zI 4294967296] hw_23 (zrkL [(zI 0, h_cK23_4_o0), (zI 1, hw_23)]) = true := by decide +kernel
noncomputable def g_cK23_4 : List zV → zH 7 → zP 7 → Bool := zocs [zR 2, zI 4, zI 4294967296] hw_23 [(zI 0, h_cK23_4_o0), (zI 1, hw_23)]
theorem m_cK23_4 : zMet X_X2_takeCharacter yX2_takeCharacter 4 g_cK23_4 := zMet_oc (m_X2_takeCharactert _ _ m_cO23_0) e_cK23_4
set_option maxRecDepth 100000 in
theorem e_cL23_4 : f_X2_readSlott [zR 2, zI 4] hw_23 (zrkL [(zI 0, hw_23), (zI 1, hw_23)]) = true := by decide +kernel
noncomputable def g_cL23_4 : List zV → zH 7 → zP 7 → Bool := zocs [zR 2, zI 4] hw_23 [(zI 0, hw_23), (zI 1, hw_23)]
theorem m_cL23_4 : zMet X_X2_readSlot yX2_readSlot 3 g_cL23_4 := zMet_oc (m_X2_readSlott) e_cL23_4
noncomputable def h_cB23_4_o0 : zH 7 := (show zT 7 from (((((zk_99_zs2_59_z23_readC_10, (((17, 4, 0xf000000000601000000c80000000005), (0, 15, zun 40 15 4294967296)), zk_99_zs2_59_z23_readC_3)), zk_99_zs2_59_z23_readC_6), zk_99_zs2_59_z23_readC_7), zk_99_zs2_59_z23_readC_9), zO6), (56, (0, 0)))
set_option maxRecDepth 100000 in
theorem e_cB23_4 : (f_X2_readInBracketst (fun _ _ _ => false)) [zR 2, zI 4] hv_23 (zrkL [(zI 0, h_cB23_4_o0)]) = true := by decide +kernel
noncomputable def g_cB23_4 : List zV → zH 7 → zP 7 → Bool := zocs [zR 2, zI 4] hv_23 [(zI 0, h_cB23_4_o0)]
theorem m_cB23_4 : zMet X_X2_readInBrackets yX2_readInBrackets 3 g_cB23_4 := zMet_oc (m_X2_readInBracketst 0 _ zfalse) e_cB23_4
set_option maxRecDepth 100000 in
theorem e_cF23_4 : (f_X2_readFactort g_cB23_4 g_cL23_4 g_cK23_4) [zR 2, zI 4] hw_23 (zrkL [(zI 0, hw_23), (zI 1, hw_23)]) = true := by decide +kernel
noncomputable def g_cF23_4 : List zV → zH 7 → zP 7 → Bool := zocs [zR 2, zI 4] hw_23 [(zI 0, hw_23), (zI 1, hw_23)]
theorem m_cF23_4 : zMet X_X2_readFactor yX2_readFactor 14 g_cF23_4 := zMet_oc (m_X2_readFactort _ _ _ _ _ _ m_cB23_4 m_cL23_4 m_cK23_4) e_cF23_4
set_option maxRecDepth 100000 in
theorem e_cT23_4 : (f_X2_readTermt g_cF23_4 g_X2_multiply_23) [zR 2, zI 4] hw_23 (zrkL [(zI 0, hw_23), (zI 1, hw_23)]) = true := by decide +kernel
noncomputable def g_cT23_4 : List zV → zH 7 → zP 7 → Bool := zocs [zR 2, zI 4] hw_23 [(zI 0, hw_23), (zI 1, hw_23)]
theorem m_cT23_4 : zMet X_X2_readTerm yX2_readTerm 18 g_cT23_4 := zMet_oc (m_X2_readTermt _ _ _ _ m_cF23_4 mg_X2_multiply_23) e_cT23_4
set_option maxRecDepth 100000 in
theorem e_cS23_4 : (f_X2_readSumt g_cT23_4 g_X2_add_23) [zR 2, zI 4] hw_23 (zrkL [(zI 0, hw_23), (zI 1, hw_23)]) = true := by decide +kernel
noncomputable def g_cS23_4 : List zV → zH 7 → zP 7 → Bool := zocs [zR 2, zI 4] hw_23 [(zI 0, hw_23), (zI 1, hw_23)]
theorem m_cS23_4 : zMet X_X2_readSum yX2_readSum 22 g_cS23_4 := zMet_oc (m_X2_readSumt _ _ _ _ m_cT23_4 mg_X2_add_23) e_cS23_4
noncomputable def h_cK23_3_o0 : zH 7 := (show zT 7 from ((((((zk_99_zs2_59_z23_readC_1, zk_99_zs2_59_z23_readC_2), (((17, 4, 0xc000000000601000000000000000002), (0, 15, zun 40 15 4294967296)), zk_99_zs2_59_z23_readC_3)), zk_99_zs2_59_z23_readC_6), zk_99_zs2_59_z23_readC_7), zk_99_zs2_59_z23_readC_9), zO6), (56, (0, 0)))
set_option maxRecDepth 100000 in
theorem e_cK23_3 : (f_X2_takeCharactert g_cO23_0) [zR 2, zI 3, zI 4294967296] hw_23 (zrkL [(zI 0, h_cK23_3_o0), (zI 1, hw_23)]) = true := by decide +kernel
noncomputable def g_cK23_3 : List zV → zH 7 → zP 7 → Bool := zocs [zR 2, zI 3, zI 4294967296] hw_23 [(zI 0, h_cK23_3_o0), (zI 1, hw_23)]
theorem m_cK23_3 : zMet X_X2_takeCharacter yX2_takeCharacter 4 g_cK23_3 := zMet_oc (m_X2_takeCharactert _ _ m_cO23_0) e_cK23_3
set_option maxRecDepth 100000 in
theorem e_cL23_3 : f_X2_readSlott [zR 2, zI 3] hw_23 (zrkL [(zI 0, hw_23), (zI 1, hw_23)]) = true := by decide +kernel
noncomputable def g_cL23_3 : List zV → zH 7 → zP 7 → Bool := zocs [zR 2, zI 3] hw_23 [(zI 0, hw_23), (zI 1, hw_23)]
theorem m_cL23_3 : zMet X_X2_readSlot yX2_readSlot 3 g_cL23_3 := zMet_oc (m_X2_readSlott) e_cL23_3
set_option maxRecDepth 100000 in
theorem e_cB23_3 : (f_X2_readInBracketst g_cS23_4) [zR 2, zI 3] hv_23 (zrkL [(zI 0, hw_23), (zI 1, hw_23)]) = true := by decide +kernel
noncomputable def g_cB23_3 : List zV → zH 7 → zP 7 → Bool := zocs [zR 2, zI 3] hv_23 [(zI 0, hw_23), (zI 1, hw_23)]
theorem m_cB23_3 : zMet X_X2_readInBrackets yX2_readInBrackets 25 g_cB23_3 := zMet_oc (m_X2_readInBracketst 22 _ m_cS23_4) e_cB23_3
set_option maxRecDepth 100000 in
theorem e_cF23_3 : (f_X2_readFactort g_cB23_3 g_cL23_3 g_cK23_3) [zR 2, zI 3] hw_23 (zrkL [(zI 0, hw_23), (zI 1, hw_23)]) = true := by decide +kernel
noncomputable def g_cF23_3 : List zV → zH 7 → zP 7 → Bool := zocs [zR 2, zI 3] hw_23 [(zI 0, hw_23), (zI 1, hw_23)]
theorem m_cF23_3 : zMet X_X2_readFactor yX2_readFactor 36 g_cF23_3 := zMet_oc (m_X2_readFactort _ _ _ _ _ _ m_cB23_3 m_cL23_3 m_cK23_3) e_cF23_3
set_option maxRecDepth 100000 in
theorem e_cT23_3 : (f_X2_readTermt g_cF23_3 g_X2_multiply_23) [zR 2, zI 3] hw_23 (zrkL [(zI 0, hw_23), (zI 1, hw_23)]) = true := by decide +kernel
noncomputable def g_cT23_3 : List zV → zH 7 → zP 7 → Bool := zocs [zR 2, zI 3] hw_23 [(zI 0, hw_23), (zI 1, hw_23)]
theorem m_cT23_3 : zMet X_X2_readTerm yX2_readTerm 40 g_cT23_3 := zMet_oc (m_X2_readTermt _ _ _ _ m_cF23_3 mg_X2_multiply_23) e_cT23_3
set_option maxRecDepth 100000 in
theorem e_cS23_3 : (f_X2_readSumt g_cT23_3 g_X2_add_23) [zR 2, zI 3] hw_23 (zrkL [(zI 0, hw_23), (zI 1, hw_23)]) = true := by decide +kernel
noncomputable def g_cS23_3 : List zV → zH 7 → zP 7 → Bool := zocs [zR 2, zI 3] hw_23 [(zI 0, hw_23), (zI 1, hw_23)]
theorem m_cS23_3 : zMet X_X2_readSum yX2_readSum 44 g_cS23_3 := zMet_oc (m_X2_readSumt _ _ _ _ m_cT23_3 mg_X2_add_23) e_cS23_3
noncomputable def h_cK23_2_o0 : zH 7 := (show zT 7 from ((((((zk_99_zs2_59_z23_readC_1, zk_99_zs2_59_z23_readC_2), (((17, 4, 0x9000000000601000000000000000002), (0, 15, zun 40 15 4294967296)), zk_99_zs2_59_z23_readC_3)), zk_99_zs2_59_z23_readC_6), zk_99_zs2_59_z23_readC_7), zk_99_zs2_59_z23_readC_9), zO6), (56, (0, 0)))
set_option maxRecDepth 100000 in
theorem e_cK23_2 : (f_X2_takeCharactert g_cO23_0) [zR 2, zI 2, zI 4294967296] hw_23 (zrkL [(zI 0, h_cK23_2_o0), (zI 1, hw_23)]) = true := by decide +kernel
noncomputable def g_cK23_2 : List zV → zH 7 → zP 7 → Bool := zocs [zR 2, zI 2, zI 4294967296] hw_23 [(zI 0, h_cK23_2_o0), (zI 1, hw_23)]
theorem m_cK23_2 : zMet X_X2_takeCharacter yX2_takeCharacter 4 g_cK23_2 := zMet_oc (m_X2_takeCharactert _ _ m_cO23_0) e_cK23_2
set_option maxRecDepth 100000 in
theorem e_cL23_2 : f_X2_readSlott [zR 2, zI 2] hw_23 (zrkL [(zI 0, hw_23), (zI 1, hw_23)]) = true := by decide +kernel
noncomputable def g_cL23_2 : List zV → zH 7 → zP 7 → Bool := zocs [zR 2, zI 2] hw_23 [(zI 0, hw_23), (zI 1, hw_23)]
theorem m_cL23_2 : zMet X_X2_readSlot yX2_readSlot 3 g_cL23_2 := zMet_oc (m_X2_readSlott) e_cL23_2
set_option maxRecDepth 100000 in
theorem e_cB23_2 : (f_X2_readInBracketst g_cS23_3) [zR 2, zI 2] hv_23 (zrkL [(zI 0, hw_23), (zI 1, hw_23)]) = true := by decide +kernel
noncomputable def g_cB23_2 : List zV → zH 7 → zP 7 → Bool := zocs [zR 2, zI 2] hv_23 [(zI 0, hw_23), (zI 1, hw_23)]
theorem m_cB23_2 : zMet X_X2_readInBrackets yX2_readInBrackets 47 g_cB23_2 := zMet_oc (m_X2_readInBracketst 44 _ m_cS23_3) e_cB23_2
set_option maxRecDepth 100000 in
theorem e_cF23_2 : (f_X2_readFactort g_cB23_2 g_cL23_2 g_cK23_2) [zR 2, zI 2] hw_23 (zrkL [(zI 0, hw_23), (zI 1, hw_23)]) = true := by decide +kernel
noncomputable def g_cF23_2 : List zV → zH 7 → zP 7 → Bool := zocs [zR 2, zI 2] hw_23 [(zI 0, hw_23), (zI 1, hw_23)]
theorem m_cF23_2 : zMet X_X2_readFactor yX2_readFactor 58 g_cF23_2 := zMet_oc (m_X2_readFactort _ _ _ _ _ _ m_cB23_2 m_cL23_2 m_cK23_2) e_cF23_2
set_option maxRecDepth 100000 in
theorem e_cT23_2 : (f_X2_readTermt g_cF23_2 g_X2_multiply_23) [zR 2, zI 2] hw_23 (zrkL [(zI 0, hw_23), (zI 1, hw_23)]) = true := by decide +kernel
noncomputable def g_cT23_2 : List zV → zH 7 → zP 7 → Bool := zocs [zR 2, zI 2] hw_23 [(zI 0, hw_23), (zI 1, hw_23)]
theorem m_cT23_2 : zMet X_X2_readTerm yX2_readTerm 62 g_cT23_2 := zMet_oc (m_X2_readTermt _ _ _ _ m_cF23_2 mg_X2_multiply_23) e_cT23_2
set_option maxRecDepth 100000 in
theorem e_cS23_2 : (f_X2_readSumt g_cT23_2 g_X2_add_23) [zR 2, zI 2] hw_23 (zrkL [(zI 0, hw_23), (zI 1, hw_23)]) = true := by decide +kernel
noncomputable def g_cS23_2 : List zV → zH 7 → zP 7 → Bool := zocs [zR 2, zI 2] hw_23 [(zI 0, hw_23), (zI 1, hw_23)]
theorem m_cS23_2 : zMet X_X2_readSum yX2_readSum 66 g_cS23_2 := zMet_oc (m_X2_readSumt _ _ _ _ m_cT23_2 mg_X2_add_23) e_cS23_2
noncomputable def h_cK23_1_o0 : zH 7 := (show zT 7 from ((((((zk_99_zs2_59_z23_readC_1, zk_99_zs2_59_z23_readC_2), (((17, 4, 0x6000000000601000000000000000002), (0, 15, zun 40 15 4294967296)), zk_99_zs2_59_z23_readC_3)), zk_99_zs2_59_z23_readC_6), zk_99_zs2_59_z23_readC_7), zk_99_zs2_59_z23_readC_9), zO6), (56, (0, 0)))
set_option maxRecDepth 100000 in
theorem e_cK23_1 : (f_X2_takeCharactert g_cO23_0) [zR 2, zI 1, zI 4294967296] hw_23 (zrkL [(zI 0, h_cK23_1_o0), (zI 1, hw_23)]) = true := by decide +kernel
noncomputable def g_cK23_1 : List zV → zH 7 → zP 7 → Bool := zocs [zR 2, zI 1, zI 4294967296] hw_23 [(zI 0, h_cK23_1_o0), (zI 1, hw_23)]
theorem m_cK23_1 : zMet X_X2_takeCharacter yX2_takeCharacter 4 g_cK23_1 := zMet_oc (m_X2_takeCharactert _ _ m_cO23_0) e_cK23_1
set_option maxRecDepth 100000 in
theorem e_cL23_1 : f_X2_readSlott [zR 2, zI 1] hw_23 (zrkL [(zI 0, hw_23), (zI 1, hw_23)]) = true := by decide +kernel
noncomputable def g_cL23_1 : List zV → zH 7 → zP 7 → Bool := zocs [zR 2, zI 1] hw_23 [(zI 0, hw_23), (zI 1, hw_23)]
theorem m_cL23_1 : zMet X_X2_readSlot yX2_readSlot 3 g_cL23_1 := zMet_oc (m_X2_readSlott) e_cL23_1
set_option maxRecDepth 100000 in
theorem e_cB23_1 : (f_X2_readInBracketst g_cS23_2) [zR 2, zI 1] hv_23 (zrkL [(zI 0, hw_23), (zI 1, hw_23)]) = true := by decide +kernel
noncomputable def g_cB23_1 : List zV → zH 7 → zP 7 → Bool := zocs [zR 2, zI 1] hv_23 [(zI 0, hw_23), (zI 1, hw_23)]
theorem m_cB23_1 : zMet X_X2_readInBrackets yX2_readInBrackets 69 g_cB23_1 := zMet_oc (m_X2_readInBracketst 66 _ m_cS23_2) e_cB23_1
set_option maxRecDepth 100000 in
theorem e_cF23_1 : (f_X2_readFactort g_cB23_1 g_cL23_1 g_cK23_1) [zR 2, zI 1] hw_23 (zrkL [(zI 0, hw_23), (zI 1, hw_23)]) = true := by decide +kernel
noncomputable def g_cF23_1 : List zV → zH 7 → zP 7 → Bool := zocs [zR 2, zI 1] hw_23 [(zI 0, hw_23), (zI 1, hw_23)]
theorem m_cF23_1 : zMet X_X2_readFactor yX2_readFactor 80 g_cF23_1 := zMet_oc (m_X2_readFactort _ _ _ _ _ _ m_cB23_1 m_cL23_1 m_cK23_1) e_cF23_1
set_option maxRecDepth 100000 in
theorem e_cT23_1 : (f_X2_readTermt g_cF23_1 g_X2_multiply_23) [zR 2, zI 1] hw_23 (zrkL [(zI 0, hw_23), (zI 1, hw_23)]) = true := by decide +kernel
noncomputable def g_cT23_1 : List zV → zH 7 → zP 7 → Bool := zocs [zR 2, zI 1] hw_23 [(zI 0, hw_23), (zI 1, hw_23)]
theorem m_cT23_1 : zMet X_X2_readTerm yX2_readTerm 84 g_cT23_1 := zMet_oc (m_X2_readTermt _ _ _ _ m_cF23_1 mg_X2_multiply_23) e_cT23_1
set_option maxRecDepth 100000 in
theorem e_cS23_1 : (f_X2_readSumt g_cT23_1 g_X2_add_23) [zR 2, zI 1] hw_23 (zrkL [(zI 0, hw_23), (zI 1, hw_23)]) = true := by decide +kernel
noncomputable def g_cS23_1 : List zV → zH 7 → zP 7 → Bool := zocs [zR 2, zI 1] hw_23 [(zI 0, hw_23), (zI 1, hw_23)]
theorem m_cS23_1 : zMet X_X2_readSum yX2_readSum 88 g_cS23_1 := zMet_oc (m_X2_readSumt _ _ _ _ m_cT23_1 mg_X2_add_23) e_cS23_1
noncomputable def h_cK23_0_o0 : zH 7 := (show zT 7 from ((((((zk_99_zs2_59_z23_readC_1, zk_99_zs2_59_z23_readC_2), (((17, 4, 0x3000000000601000000000000000002), (0, 15, zun 40 15 4294967296)), zk_99_zs2_59_z23_readC_3)), zk_99_zs2_59_z23_readC_6), zk_99_zs2_59_z23_readC_7), zk_99_zs2_59_z23_readC_9), zO6), (56, (0, 0)))
set_option maxRecDepth 100000 in
theorem e_cK23_0 : (f_X2_takeCharactert g_cO23_0) [zR 2, zI 0, zI 4294967296] hw_23 (zrkL [(zI 0, h_cK23_0_o0), (zI 1, hw_23)]) = true := by decide +kernel
noncomputable def g_cK23_0 : List zV → zH 7 → zP 7 → Bool := zocs [zR 2, zI 0, zI 4294967296] hw_23 [(zI 0, h_cK23_0_o0), (zI 1, hw_23)]
theorem m_cK23_0 : zMet X_X2_takeCharacter yX2_takeCharacter 4 g_cK23_0 := zMet_oc (m_X2_takeCharactert _ _ m_cO23_0) e_cK23_0
set_option maxRecDepth 100000 in
theorem e_cL23_0 : f_X2_readSlott [zR 2, zI 0] hw_23 (zrkL [(zI 0, hw_23), (zI 1, hw_23)]) = true := by decide +kernel
noncomputable def g_cL23_0 : List zV → zH 7 → zP 7 → Bool := zocs [zR 2, zI 0] hw_23 [(zI 0, hw_23), (zI 1, hw_23)]
theorem m_cL23_0 : zMet X_X2_readSlot yX2_readSlot 3 g_cL23_0 := zMet_oc (m_X2_readSlott) e_cL23_0
set_option maxRecDepth 100000 in
theorem e_cB23_0 : (f_X2_readInBracketst g_cS23_1) [zR 2, zI 0] hv_23 (zrkL [(zI 0, hw_23), (zI 1, hw_23)]) = true := by decide +kernel
noncomputable def g_cB23_0 : List zV → zH 7 → zP 7 → Bool := zocs [zR 2, zI 0] hv_23 [(zI 0, hw_23), (zI 1, hw_23)]
theorem m_cB23_0 : zMet X_X2_readInBrackets yX2_readInBrackets 91 g_cB23_0 := zMet_oc (m_X2_readInBracketst 88 _ m_cS23_1) e_cB23_0
set_option maxRecDepth 100000 in
theorem e_cF23_0 : (f_X2_readFactort g_cB23_0 g_cL23_0 g_cK23_0) [zR 2, zI 0] hw_23 (zrkL [(zI 0, hw_23), (zI 1, hw_23)]) = true := by decide +kernel
noncomputable def g_cF23_0 : List zV → zH 7 → zP 7 → Bool := zocs [zR 2, zI 0] hw_23 [(zI 0, hw_23), (zI 1, hw_23)]
theorem m_cF23_0 : zMet X_X2_readFactor yX2_readFactor 102 g_cF23_0 := zMet_oc (m_X2_readFactort _ _ _ _ _ _ m_cB23_0 m_cL23_0 m_cK23_0) e_cF23_0
set_option maxRecDepth 100000 in
theorem e_cT23_0 : (f_X2_readTermt g_cF23_0 g_X2_multiply_23) [zR 2, zI 0] hw_23 (zrkL [(zI 0, hw_23), (zI 1, hw_23)]) = true := by decide +kernel
noncomputable def g_cT23_0 : List zV → zH 7 → zP 7 → Bool := zocs [zR 2, zI 0] hw_23 [(zI 0, hw_23), (zI 1, hw_23)]
theorem m_cT23_0 : zMet X_X2_readTerm yX2_readTerm 106 g_cT23_0 := zMet_oc (m_X2_readTermt _ _ _ _ m_cF23_0 mg_X2_multiply_23) e_cT23_0
set_option maxRecDepth 100000 in
theorem e_cS23_0 : (f_X2_readSumt g_cT23_0 g_X2_add_23) [zR 2, zI 0] hw_23 (zrkL [(zI 0, hw_23), (zI 1, hw_23)]) = true := by decide +kernel
noncomputable def g_cS23_0 : List zV → zH 7 → zP 7 → Bool := zocs [zR 2, zI 0] hw_23 [(zI 0, hw_23), (zI 1, hw_23)]
theorem m_cS23_0 : zMet X_X2_readSum yX2_readSum 110 g_cS23_0 := zMet_oc (m_X2_readSumt _ _ _ _ m_cT23_0 mg_X2_add_23) e_cS23_0
noncomputable def hw_23_t : zH 7 := (show zT 7 from ((((((zk_99_zs2_59_z23_readC_1, ((22, 2, 4), (0, 200, zun 40 200 4294967296))), zk_99_zs2_59_z23_readC_4), zk_99_zs2_59_z23_readC_6), zk_99_zs2_59_z23_readC_7), zk_99_zs2_59_z23_readC_9), zO6), (56, (0, 0)))
set_option maxRecDepth 100000 in
theorem e_textC_23 : (zcutR 1 6 (f_X8_textt (f_X2_readt g_cS23_0))) [zR 1, zI 4294967296] hw_23 (zrkL [(zI 4294967296, hw_23_t)]) = true := by decide +kernel
noncomputable def g_textC_23 {d : Nat} : List zV → zH d → zP d → Bool := zsmyL [(0, 0), (1, 5), (1, 4), (3, 0), (2, 0), (5, 2), (2, 1), (7, 0), (7, 1), (7, 2), (7, 3), (7, 4), (2, 2), (13, 0), (13, 1), (13, 2), (13, 3), (13, 4), (2, 3), (19, 0), (19, 1), (19, 2), (19, 3), (19, 4), (2, 4), (2, 5), (2, 6), (2, 7), (1, 2), (29, 0), (29, 1), (29, 2), (29, 3), (29, 4), (29, 5), (2, 12), (36, 3), (37, 0), (37, 1), (38, 2), (39, 2), (36, 7), (36, 12), (43, 0), (43, 1), (36, 11), (46, 0), (46, 1), (2, 13), (49, 2), (49, 6), (51, 0), (51, 1), (49, 9), (54, 0), (54, 1)] [zR 1, zI 4294967296] hw_23 [(zI 4294967296, hw_23_t)]
theorem m_textC_23 {d : Nat} : zMet (d := d) X_X8_text yX8_text 115 g_textC_23 := zMet_smL (zMet_cutR (m_X8_textt _ _ (m_X2_readt _ _ m_cS23_0))) e_textC_23
end
section
/-! the class's reader at n = 32: by program -/
noncomputable def zk_99_zs2_59_z32_readC_0 : zC := (24, 8, 0x80000000088000000007000000000200000000038000000004000000001d80000000028000000001)
noncomputable def zk_99_zs2_59_z32_readC_1 : zT 1 := @Prod.mk (zT 0) (zT 0) zk_99_zs2_59_z32_readC_0 (18, 15, 0x1000000c900000000350000000024000000001d0000000003010000000001000000c9000000001c000000001b000000001a00000000190000000013000000000d00000000070000000005)
noncomputable def zk_99_zs2_59_z32_readC_2 : zT 1 := @Prod.mk (zT 0) (zT 0) (22, 2, 0x1000000c90000000004) (0, 200, zun 40 200 4294967296)
noncomputable def zk_99_zs2_59_z32_readC_3 : zT 1 := @Prod.mk (zT 0) (zT 0) (4, 5, 0xc000000000b000000000a00000000090000000008) (2, 11, zun 72 11 18446744073709551616)
noncomputable def zk_99_zs2_59_z32_readC_4 : zT 2 := @Prod.mk (zT 1) (zT 1) ((17, 4, 0x100000010000000000601000000000100000000), (0, 15, zun 40 15 4294967296)) zk_99_zs2_59_z32_readC_3
noncomputable def zk_99_zs2_59_z32_readC_5 : zT 1 := @Prod.mk (zT 0) (zT 0) (2, 11, zun 72 11 18446744073709551616) (2, 11, zun 72 11 18446744073709551616)
noncomputable def zk_99_zs2_59_z32_readC_6 : zT 3 := @Prod.mk (zT 2) (zT 2) (zk_99_zs2_59_z32_readC_5, zk_99_zs2_59_z32_readC_5) (((4, 5, 0x1200000000110000000010000000000f000000000e), (2, 11, zun 72 11 18446744073709551616)), zk_99_zs2_59_z32_readC_5)
noncomputable def zk_99_zs2_59_z32_readC_7 : zT 4 := @Prod.mk (zT 3) (zT 3) ((zk_99_zs2_59_z32_readC_5, ((4, 5, 0x180000000017000000001600000000150000000014), (2, 11, zun 72 11 18446744073709551616))), (zk_99_zs2_59_z32_readC_5, zk_99_zs2_59_z32_readC_5)) ((((0, 5, 0x1000000000100000000010000000001000000000100000000), (0, 5, 0x1000000000100000000010000000001000000000100000000)), ((0, 5, 0x1000000000100000000010000000001000000000100000000), (0, 6, 0x10000000001000000000100000000010000000001000000000100000000))), (((4, 6, 0x23000000002200000000210000000020000000001f000000001e), (2, 11, zun 72 11 18446744073709551616)), zk_99_zs2_59_z32_readC_5))
noncomputable def zk_99_zs2_59_z32_readC_8 : zT 1 := @Prod.mk (zT 0) (zT 0) (0, 3, 0x10000000001000000000100000000) (0, 3, 0x10000000001000000000100000000)
noncomputable def zk_99_zs2_59_z32_readC_9 : zT 5 := @Prod.mk (zT 4) (zT 4) (((zk_99_zs2_59_z32_readC_5, ((2, 11, zun 72 11 18446744073709551616), (23, 14, 0x80000008ce000000002d000000003180000008cb80000008ca80000008c9000000002c80000008c780000008c680000008c5000000002580000008c3000000000380000008c1))), (((5, 3, 0x2800000000270000000026), (20, 16, 0x8000000950800000094f800000094e800000094d800000094c800000094b800000094a800000094980000009488000000947800000094680000009458000000944000000002980000009428000000941)), ((20, 16, 0x8000000990800000098f800000098e800000098d800000098c800000098b800000098a800000098980000009888000000987800000098680000009858000000984000000002a80000009828000000981), (20, 16, 0x80000009d080000009cf80000009ce80000009cd80000009cc80000009cb80000009ca80000009c980000009c880000009c780000009c680000009c580000009c4000000002b80000009c280000009c1)))), ((((0, 1, 3), (0, 2, 0x10000000002)), ((0, 3, 0x100000000010000000001), (0, 3, 0x100ffffffff0000000001))), (((3, 3, 0x30000000002f000000002e), (0, 3, 0x10000000001000000000100000000)), zk_99_zs2_59_z32_readC_8))) (((((3, 3, 0x3400000000330000000032), (0, 3, 0x10000000001000000000100000000)), zk_99_zs2_59_z32_readC_8), (((21, 12, 0x8000000d0c8000000d0b000000003b8000000d098000000d0800000000378000000d068000000d058000000d0400000000368000000d028000000d01), (0, 3, 0xffffffff00000000010000000000)), ((3, 3, 0x3a00000000390000000038), (0, 3, 0x10000000001000000000100000000)))), ((zk_99_zs2_59_z32_readC_8, ((3, 3, 0x3e000000003d000000003c), (0, 3, 0x10000000001000000000100000000))), (zk_99_zs2_59_z32_readC_8, zO1)))
noncomputable def hw_32 : zH 7 := (show zT 7 from ((((((zk_99_zs2_59_z32_readC_1, zk_99_zs2_59_z32_readC_2), zk_99_zs2_59_z32_readC_4), zk_99_zs2_59_z32_readC_6), zk_99_zs2_59_z32_readC_7), zk_99_zs2_59_z32_readC_9), zO6), (62, (0, 0)))
noncomputable def zk_99_zs2_59_z32_readC_10 : zT 2 := @Prod.mk (zT 1) (zT 1) (zk_99_zs2_59_z32_readC_0, (18, 15, 0x1000000c800000000350000000024000000001d0000000003010000000001000000c9000000001c000000001b000000001a00000000190000000013000000000d00000000070000000005)) zk_99_zs2_59_z32_readC_2
noncomputable def hv_32 : zH 7 := (show zT 7 from (((((zk_99_zs2_59_z32_readC_10, zk_99_zs2_59_z32_readC_4), zk_99_zs2_59_z32_readC_6), zk_99_zs2_59_z32_readC_7), zk_99_zs2_59_z32_readC_9), zO6), (62, (0, 0)))
noncomputable def hs_X2_add_32 : zH 2 := (show zT 2 from (((18, 15, 0x800000000f800000000e0000000002800000000c800000000b800000000a800000000980000000088000000007800000000680000000058000000004800000000380000000028000000001), (23, 14, 0x800000004e800000004d800000004c800000004b800000004a800000004980000000488000000047800000004680000000458000000044800000004300000000038000000041)), zk_99_zs2_59_z32_readC_5), (4, (0, 0)))
noncomputable def hs_X2_add_32_o0 : zH 2 := (show zT 2 from (((18, 15, 0x800000000f800000000e0000000002800000000c800000000b800000000a800000000980000000088000000007800000000680000000058000000004800000000380000000028000000001), (23, 14, 0x800000004e800000004d800000004c800000004b800000004a800000004980000000488000000047800000004680000000458000000044800000004300000000038000000041)), zk_99_zs2_59_z32_readC_5), (4, (0, 0)))
noncomputable def hs_X2_add_32_o1 : zH 2 := (show zT 2 from (((18, 15, 0x800000000f800000000e0000000002800000000c800000000b800000000a800000000980000000088000000007800000000680000000058000000004800000000380000000028000000001), (23, 14, 0x800000004e800000004d800000004c800000004b800000004a800000004980000000488000000047800000004680000000458000000044800000004300000000038000000041)), zk_99_zs2_59_z32_readC_5), (4, (0, 0)))
set_option maxRecDepth 100000 in
theorem ev_X2_add_32 : f_X2_addt [zR 1, zR 3, zI 4294967298, zR 4] hs_X2_add_32 (zrkL [(zI 0, hs_X2_add_32_o0), (zI 1, hs_X2_add_32_o1)]) = true := by decide +kernel
noncomputable def g_X2_add_32 {d : Nat} : List zV → zH d → zP d → Bool := zsmyL [(0, 0), (1, 12), (0, 1), (0, 3)] [zR 1, zR 3, zI 4294967298, zR 4] hs_X2_add_32 [(zI 0, hs_X2_add_32_o0), (zI 1, hs_X2_add_32_o1)]
theorem mg_X2_add_32 {d : Nat} : zMet (d := d) X_X2_add yX2_add 1 g_X2_add_32 := zMet_smL m_X2_addt ev_X2_add_32

noncomputable def hs_X2_multiply_32 : zH 2 := (show zT 2 from (((18, 15, 0x800000000f800000000e0000000002800000000c800000000b800000000a800000000980000000088000000007800000000680000000058000000004800000000380000000028000000001), (23, 14, 0x800000004e800000004d800000004c800000004b800000004a800000004980000000488000000047800000004680000000458000000044800000004300000000038000000041)), zk_99_zs2_59_z32_readC_5), (4, (0, 0)))
noncomputable def hs_X2_multiply_32_o0 : zH 2 := (show zT 2 from (((18, 15, 0x800000000f800000000e0000000002800000000c800000000b800000000a800000000980000000088000000007800000000680000000058000000004800000000380000000028000000001), (23, 14, 0x800000004e800000004d800000004c800000004b800000004a800000004980000000488000000047800000004680000000458000000044800000004300000000038000000041)), zk_99_zs2_59_z32_readC_5), (4, (0, 0)))
noncomputable def hs_X2_multiply_32_o1 : zH 2 := (show zT 2 from (((18, 15, 0x800000000f800000000e0000000002800000000c800000000b800000000a800000000980000000088000000007800000000680000000058000000004800000000380000000028000000001), (23, 14, 0x800000004e800000004d800000004c800000004b800000004a800000004980000000488000000047800000004680000000458000000044800000004300000000038000000041)), zk_99_zs2_59_z32_readC_5), (4, (0, 0)))
set_option maxRecDepth 100000 in
theorem ev_X2_multiply_32 : f_X2_multiplyt [zR 1, zR 3, zR 4] hs_X2_multiply_32 (zrkL [(zI 0, hs_X2_multiply_32_o0), (zI 1, hs_X2_multiply_32_o1)]) = true := by decide +kernel
noncomputable def g_X2_multiply_32 {d : Nat} : List zV → zH d → zP d → Bool := zsmyL [(0, 0), (1, 12), (0, 1), (0, 2)] [zR 1, zR 3, zR 4] hs_X2_multiply_32 [(zI 0, hs_X2_multiply_32_o0), (zI 1, hs_X2_multiply_32_o1)]
theorem mg_X2_multiply_32 {d : Nat} : zMet (d := d) X_X2_multiply yX2_multiply 1 g_X2_multiply_32 := zMet_smL m_X2_multiplyt ev_X2_multiply_32

set_option maxRecDepth 100000 in
theorem e_cO32_0 : f_X7_numberOft [zR 36, zR 28, zI 4294967497] hw_32 (zrkL [(zI 4294967295, hw_32), (zI 4294967299, hw_32)]) = true := by decide +kernel
noncomputable def g_cO32_0 : List zV → zH 7 → zP 7 → Bool := zocs [zR 36, zR 28, zI 4294967497] hw_32 [(zI 4294967295, hw_32), (zI 4294967299, hw_32)]
theorem m_cO32_0 : zMet X_X7_numberOf yX7_numberOf 1 g_cO32_0 := zMet_oc (m_X7_numberOft) e_cO32_0
noncomputable def h_cK32_4_o0 : zH 7 := (show zT 7 from ((((((zk_99_zs2_59_z32_readC_1, zk_99_zs2_59_z32_readC_2), (((17, 4, 0xf000000000601000000000100000004), (0, 15, zun 40 15 4294967296)), zk_99_zs2_59_z32_readC_3)), zk_99_zs2_59_z32_readC_6), zk_99_zs2_59_z32_readC_7), zk_99_zs2_59_z32_readC_9), zO6), (62, (0, 0)))
set_option maxRecDepth 100000 in
theorem e_cK32_4 : (f_X2_takeCharactert g_cO32_0) [zR 2, zI 4, zI 4294967296] hw_32 (zrkL [(zI 0, h_cK32_4_o0), (zI 1, hw_32)]) = true := by decide +kernel
noncomputable def g_cK32_4 : List zV → zH 7 → zP 7 → Bool := zocs [zR 2, zI 4, zI 4294967296] hw_32 [(zI 0, h_cK32_4_o0), (zI 1, hw_32)]
theorem m_cK32_4 : zMet X_X2_takeCharacter yX2_takeCharacter 4 g_cK32_4 := zMet_oc (m_X2_takeCharactert _ _ m_cO32_0) e_cK32_4
set_option maxRecDepth 100000 in
theorem e_cL32_4 : f_X2_readSlott [zR 2, zI 4] hw_32 (zrkL [(zI 0, hw_32), (zI 1, hw_32)]) = true := by decide +kernel
noncomputable def g_cL32_4 : List zV → zH 7 → zP 7 → Bool := zocs [zR 2, zI 4] hw_32 [(zI 0, hw_32), (zI 1, hw_32)]
theorem m_cL32_4 : zMet X_X2_readSlot yX2_readSlot 3 g_cL32_4 := zMet_oc (m_X2_readSlott) e_cL32_4
noncomputable def h_cB32_4_o0 : zH 7 := (show zT 7 from (((((zk_99_zs2_59_z32_readC_10, (((17, 4, 0xf000000000601000000c80000000005), (0, 15, zun 40 15 4294967296)), zk_99_zs2_59_z32_readC_3)), zk_99_zs2_59_z32_readC_6), zk_99_zs2_59_z32_readC_7), zk_99_zs2_59_z32_readC_9), zO6), (62, (0, 0)))
set_option maxRecDepth 100000 in
theorem e_cB32_4 : (f_X2_readInBracketst (fun _ _ _ => false)) [zR 2, zI 4] hv_32 (zrkL [(zI 0, h_cB32_4_o0)]) = true := by decide +kernel
noncomputable def g_cB32_4 : List zV → zH 7 → zP 7 → Bool := zocs [zR 2, zI 4] hv_32 [(zI 0, h_cB32_4_o0)]
theorem m_cB32_4 : zMet X_X2_readInBrackets yX2_readInBrackets 3 g_cB32_4 := zMet_oc (m_X2_readInBracketst 0 _ zfalse) e_cB32_4
set_option maxRecDepth 100000 in
theorem e_cF32_4 : (f_X2_readFactort g_cB32_4 g_cL32_4 g_cK32_4) [zR 2, zI 4] hw_32 (zrkL [(zI 0, hw_32), (zI 1, hw_32)]) = true := by decide +kernel
noncomputable def g_cF32_4 : List zV → zH 7 → zP 7 → Bool := zocs [zR 2, zI 4] hw_32 [(zI 0, hw_32), (zI 1, hw_32)]
theorem m_cF32_4 : zMet X_X2_readFactor yX2_readFactor 14 g_cF32_4 := zMet_oc (m_X2_readFactort _ _ _ _ _ _ m_cB32_4 m_cL32_4 m_cK32_4) e_cF32_4
set_option maxRecDepth 100000 in
theorem e_cT32_4 : (f_X2_readTermt g_cF32_4 g_X2_multiply_32) [zR 2, zI 4] hw_32 (zrkL [(zI 0, hw_32), (zI 1, hw_32)]) = true := by decide +kernel
noncomputable def g_cT32_4 : List zV → zH 7 → zP 7 → Bool := zocs [zR 2, zI 4] hw_32 [(zI 0, hw_32), (zI 1, hw_32)]
theorem m_cT32_4 : zMet X_X2_readTerm yX2_readTerm 18 g_cT32_4 := zMet_oc (m_X2_readTermt _ _ _ _ m_cF32_4 mg_X2_multiply_32) e_cT32_4
set_option maxRecDepth 100000 in
theorem e_cS32_4 : (f_X2_readSumt g_cT32_4 g_X2_add_32) [zR 2, zI 4] hw_32 (zrkL [(zI 0, hw_32), (zI 1, hw_32)]) = true := by decide +kernel
noncomputable def g_cS32_4 : List zV → zH 7 → zP 7 → Bool := zocs [zR 2, zI 4] hw_32 [(zI 0, hw_32), (zI 1, hw_32)]
theorem m_cS32_4 : zMet X_X2_readSum yX2_readSum 22 g_cS32_4 := zMet_oc (m_X2_readSumt _ _ _ _ m_cT32_4 mg_X2_add_32) e_cS32_4
noncomputable def h_cK32_3_o0 : zH 7 := (show zT 7 from ((((((zk_99_zs2_59_z32_readC_1, zk_99_zs2_59_z32_readC_2), (((17, 4, 0xc000000000601000000000100000004), (0, 15, zun 40 15 4294967296)), zk_99_zs2_59_z32_readC_3)), zk_99_zs2_59_z32_readC_6), zk_99_zs2_59_z32_readC_7), zk_99_zs2_59_z32_readC_9), zO6), (62, (0, 0)))
set_option maxRecDepth 100000 in
theorem e_cK32_3 : (f_X2_takeCharactert g_cO32_0) [zR 2, zI 3, zI 4294967296] hw_32 (zrkL [(zI 0, h_cK32_3_o0), (zI 1, hw_32)]) = true := by decide +kernel
noncomputable def g_cK32_3 : List zV → zH 7 → zP 7 → Bool := zocs [zR 2, zI 3, zI 4294967296] hw_32 [(zI 0, h_cK32_3_o0), (zI 1, hw_32)]
theorem m_cK32_3 : zMet X_X2_takeCharacter yX2_takeCharacter 4 g_cK32_3 := zMet_oc (m_X2_takeCharactert _ _ m_cO32_0) e_cK32_3
set_option maxRecDepth 100000 in
theorem e_cL32_3 : f_X2_readSlott [zR 2, zI 3] hw_32 (zrkL [(zI 0, hw_32), (zI 1, hw_32)]) = true := by decide +kernel
noncomputable def g_cL32_3 : List zV → zH 7 → zP 7 → Bool := zocs [zR 2, zI 3] hw_32 [(zI 0, hw_32), (zI 1, hw_32)]
theorem m_cL32_3 : zMet X_X2_readSlot yX2_readSlot 3 g_cL32_3 := zMet_oc (m_X2_readSlott) e_cL32_3
set_option maxRecDepth 100000 in
theorem e_cB32_3 : (f_X2_readInBracketst g_cS32_4) [zR 2, zI 3] hv_32 (zrkL [(zI 0, hw_32), (zI 1, hw_32)]) = true := by decide +kernel
noncomputable def g_cB32_3 : List zV → zH 7 → zP 7 → Bool := zocs [zR 2, zI 3] hv_32 [(zI 0, hw_32), (zI 1, hw_32)]
theorem m_cB32_3 : zMet X_X2_readInBrackets yX2_readInBrackets 25 g_cB32_3 := zMet_oc (m_X2_readInBracketst 22 _ m_cS32_4) e_cB32_3
set_option maxRecDepth 100000 in
theorem e_cF32_3 : (f_X2_readFactort g_cB32_3 g_cL32_3 g_cK32_3) [zR 2, zI 3] hw_32 (zrkL [(zI 0, hw_32), (zI 1, hw_32)]) = true := by decide +kernel
noncomputable def g_cF32_3 : List zV → zH 7 → zP 7 → Bool := zocs [zR 2, zI 3] hw_32 [(zI 0, hw_32), (zI 1, hw_32)]
theorem m_cF32_3 : zMet X_X2_readFactor yX2_readFactor 36 g_cF32_3 := zMet_oc (m_X2_readFactort _ _ _ _ _ _ m_cB32_3 m_cL32_3 m_cK32_3) e_cF32_3
set_option maxRecDepth 100000 in
theorem e_cT32_3 : (f_X2_readTermt g_cF32_3 g_X2_multiply_32) [zR 2, zI 3] hw_32 (zrkL [(zI 0, hw_32), (zI 1, hw_32)]) = true := by decide +kernel
noncomputable def g_cT32_3 : List zV → zH 7 → zP 7 → Bool := zocs [zR 2, zI 3] hw_32 [(zI 0, hw_32), (zI 1, hw_32)]
theorem m_cT32_3 : zMet X_X2_readTerm yX2_readTerm 40 g_cT32_3 := zMet_oc (m_X2_readTermt _ _ _ _ m_cF32_3 mg_X2_multiply_32) e_cT32_3
set_option maxRecDepth 100000 in
theorem e_cS32_3 : (f_X2_readSumt g_cT32_3 g_X2_add_32) [zR 2, zI 3] hw_32 (zrkL [(zI 0, hw_32), (zI 1, hw_32)]) = true := by decide +kernel
noncomputable def g_cS32_3 : List zV → zH 7 → zP 7 → Bool := zocs [zR 2, zI 3] hw_32 [(zI 0, hw_32), (zI 1, hw_32)]
theorem m_cS32_3 : zMet X_X2_readSum yX2_readSum 44 g_cS32_3 := zMet_oc (m_X2_readSumt _ _ _ _ m_cT32_3 mg_X2_add_32) e_cS32_3
noncomputable def h_cK32_2_o0 : zH 7 := (show zT 7 from ((((((zk_99_zs2_59_z32_readC_1, zk_99_zs2_59_z32_readC_2), (((17, 4, 0x9000000000601000000000100000004), (0, 15, zun 40 15 4294967296)), zk_99_zs2_59_z32_readC_3)), zk_99_zs2_59_z32_readC_6), zk_99_zs2_59_z32_readC_7), zk_99_zs2_59_z32_readC_9), zO6), (62, (0, 0)))
set_option maxRecDepth 100000 in
theorem e_cK32_2 : (f_X2_takeCharactert g_cO32_0) [zR 2, zI 2, zI 4294967296] hw_32 (zrkL [(zI 0, h_cK32_2_o0), (zI 1, hw_32)]) = true := by decide +kernel
noncomputable def g_cK32_2 : List zV → zH 7 → zP 7 → Bool := zocs [zR 2, zI 2, zI 4294967296] hw_32 [(zI 0, h_cK32_2_o0), (zI 1, hw_32)]
theorem m_cK32_2 : zMet X_X2_takeCharacter yX2_takeCharacter 4 g_cK32_2 := zMet_oc (m_X2_takeCharactert _ _ m_cO32_0) e_cK32_2
set_option maxRecDepth 100000 in
theorem e_cL32_2 : f_X2_readSlott [zR 2, zI 2] hw_32 (zrkL [(zI 0, hw_32), (zI 1, hw_32)]) = true := by decide +kernel
noncomputable def g_cL32_2 : List zV → zH 7 → zP 7 → Bool := zocs [zR 2, zI 2] hw_32 [(zI 0, hw_32), (zI 1, hw_32)]
theorem m_cL32_2 : zMet X_X2_readSlot yX2_readSlot 3 g_cL32_2 := zMet_oc (m_X2_readSlott) e_cL32_2
set_option maxRecDepth 100000 in
theorem e_cB32_2 : (f_X2_readInBracketst g_cS32_3) [zR 2, zI 2] hv_32 (zrkL [(zI 0, hw_32), (zI 1, hw_32)]) = true := by decide +kernel
noncomputable def g_cB32_2 : List zV → zH 7 → zP 7 → Bool := zocs [zR 2, zI 2] hv_32 [(zI 0, hw_32), (zI 1, hw_32)]
theorem m_cB32_2 : zMet X_X2_readInBrackets yX2_readInBrackets 47 g_cB32_2 := zMet_oc (m_X2_readInBracketst 44 _ m_cS32_3) e_cB32_2
set_option maxRecDepth 100000 in
theorem e_cF32_2 : (f_X2_readFactort g_cB32_2 g_cL32_2 g_cK32_2) [zR 2, zI 2] hw_32 (zrkL [(zI 0, hw_32), (zI 1, hw_32)]) = true := by decide +kernel
noncomputable def g_cF32_2 : List zV → zH 7 → zP 7 → Bool := zocs [zR 2, zI 2] hw_32 [(zI 0, hw_32), (zI 1, hw_32)]
theorem m_cF32_2 : zMet X_X2_readFactor yX2_readFactor 58 g_cF32_2 := zMet_oc (m_X2_readFactort _ _ _ _ _ _ m_cB32_2 m_cL32_2 m_cK32_2) e_cF32_2
set_option maxRecDepth 100000 in
theorem e_cT32_2 : (f_X2_readTermt g_cF32_2 g_X2_multiply_32) [zR 2, zI 2] hw_32 (zrkL [(zI 0, hw_32), (zI 1, hw_32)]) = true := by decide +kernel
noncomputable def g_cT32_2 : List zV → zH 7 → zP 7 → Bool := zocs [zR 2, zI 2] hw_32 [(zI 0, hw_32), (zI 1, hw_32)]
theorem m_cT32_2 : zMet X_X2_readTerm yX2_readTerm 62 g_cT32_2 := zMet_oc (m_X2_readTermt _ _ _ _ m_cF32_2 mg_X2_multiply_32) e_cT32_2
set_option maxRecDepth 100000 in
theorem e_cS32_2 : (f_X2_readSumt g_cT32_2 g_X2_add_32) [zR 2, zI 2] hw_32 (zrkL [(zI 0, hw_32), (zI 1, hw_32)]) = true := by decide +kernel
noncomputable def g_cS32_2 : List zV → zH 7 → zP 7 → Bool := zocs [zR 2, zI 2] hw_32 [(zI 0, hw_32), (zI 1, hw_32)]
theorem m_cS32_2 : zMet X_X2_readSum yX2_readSum 66 g_cS32_2 := zMet_oc (m_X2_readSumt _ _ _ _ m_cT32_2 mg_X2_add_32) e_cS32_2
noncomputable def h_cK32_1_o0 : zH 7 := (show zT 7 from ((((((zk_99_zs2_59_z32_readC_1, zk_99_zs2_59_z32_readC_2), (((17, 4, 0x6000000000601000000000100000004), (0, 15, zun 40 15 4294967296)), zk_99_zs2_59_z32_readC_3)), zk_99_zs2_59_z32_readC_6), zk_99_zs2_59_z32_readC_7), zk_99_zs2_59_z32_readC_9), zO6), (62, (0, 0)))
set_option maxRecDepth 100000 in
theorem e_cK32_1 : (f_X2_takeCharactert g_cO32_0) [zR 2, zI 1, zI 4294967296] hw_32 (zrkL [(zI 0, h_cK32_1_o0), (zI 1, hw_32)]) = true := by decide +kernel
noncomputable def g_cK32_1 : List zV → zH 7 → zP 7 → Bool := zocs [zR 2, zI 1, zI 4294967296] hw_32 [(zI 0, h_cK32_1_o0), (zI 1, hw_32)]
theorem m_cK32_1 : zMet X_X2_takeCharacter yX2_takeCharacter 4 g_cK32_1 := zMet_oc (m_X2_takeCharactert _ _ m_cO32_0) e_cK32_1
set_option maxRecDepth 100000 in
theorem e_cL32_1 : f_X2_readSlott [zR 2, zI 1] hw_32 (zrkL [(zI 0, hw_32), (zI 1, hw_32)]) = true := by decide +kernel
noncomputable def g_cL32_1 : List zV → zH 7 → zP 7 → Bool := zocs [zR 2, zI 1] hw_32 [(zI 0, hw_32), (zI 1, hw_32)]
theorem m_cL32_1 : zMet X_X2_readSlot yX2_readSlot 3 g_cL32_1 := zMet_oc (m_X2_readSlott) e_cL32_1
set_option maxRecDepth 100000 in
theorem e_cB32_1 : (f_X2_readInBracketst g_cS32_2) [zR 2, zI 1] hv_32 (zrkL [(zI 0, hw_32), (zI 1, hw_32)]) = true := by decide +kernel
noncomputable def g_cB32_1 : List zV → zH 7 → zP 7 → Bool := zocs [zR 2, zI 1] hv_32 [(zI 0, hw_32), (zI 1, hw_32)]
theorem m_cB32_1 : zMet X_X2_readInBrackets yX2_readInBrackets 69 g_cB32_1 := zMet_oc (m_X2_readInBracketst 66 _ m_cS32_2) e_cB32_1
set_option maxRecDepth 100000 in
theorem e_cF32_1 : (f_X2_readFactort g_cB32_1 g_cL32_1 g_cK32_1) [zR 2, zI 1] hw_32 (zrkL [(zI 0, hw_32), (zI 1, hw_32)]) = true := by decide +kernel
noncomputable def g_cF32_1 : List zV → zH 7 → zP 7 → Bool := zocs [zR 2, zI 1] hw_32 [(zI 0, hw_32), (zI 1, hw_32)]
theorem m_cF32_1 : zMet X_X2_readFactor yX2_readFactor 80 g_cF32_1 := zMet_oc (m_X2_readFactort _ _ _ _ _ _ m_cB32_1 m_cL32_1 m_cK32_1) e_cF32_1
set_option maxRecDepth 100000 in
theorem e_cT32_1 : (f_X2_readTermt g_cF32_1 g_X2_multiply_32) [zR 2, zI 1] hw_32 (zrkL [(zI 0, hw_32), (zI 1, hw_32)]) = true := by decide +kernel
noncomputable def g_cT32_1 : List zV → zH 7 → zP 7 → Bool := zocs [zR 2, zI 1] hw_32 [(zI 0, hw_32), (zI 1, hw_32)]
theorem m_cT32_1 : zMet X_X2_readTerm yX2_readTerm 84 g_cT32_1 := zMet_oc (m_X2_readTermt _ _ _ _ m_cF32_1 mg_X2_multiply_32) e_cT32_1
set_option maxRecDepth 100000 in
theorem e_cS32_1 : (f_X2_readSumt g_cT32_1 g_X2_add_32) [zR 2, zI 1] hw_32 (zrkL [(zI 0, hw_32), (zI 1, hw_32)]) = true := by decide +kernel
noncomputable def g_cS32_1 : List zV → zH 7 → zP 7 → Bool := zocs [zR 2, zI 1] hw_32 [(zI 0, hw_32), (zI 1, hw_32)]
theorem m_cS32_1 : zMet X_X2_readSum yX2_readSum 88 g_cS32_1 := zMet_oc (m_X2_readSumt _ _ _ _ m_cT32_1 mg_X2_add_32) e_cS32_1
noncomputable def h_cK32_0_o0 : zH 7 := (show zT 7 from ((((((zk_99_zs2_59_z32_readC_1, zk_99_zs2_59_z32_readC_2), (((17, 4, 0x3000000000601000000000100000004), (0, 15, zun 40 15 4294967296)), zk_99_zs2_59_z32_readC_3)), zk_99_zs2_59_z32_readC_6), zk_99_zs2_59_z32_readC_7), zk_99_zs2_59_z32_readC_9), zO6), (62, (0, 0)))
set_option maxRecDepth 100000 in
theorem e_cK32_0 : (f_X2_takeCharactert g_cO32_0) [zR 2, zI 0, zI 4294967296] hw_32 (zrkL [(zI 0, h_cK32_0_o0), (zI 1, hw_32)]) = true := by decide +kernel
noncomputable def g_cK32_0 : List zV → zH 7 → zP 7 → Bool := zocs [zR 2, zI 0, zI 4294967296] hw_32 [(zI 0, h_cK32_0_o0), (zI 1, hw_32)]
theorem m_cK32_0 : zMet X_X2_takeCharacter yX2_takeCharacter 4 g_cK32_0 := zMet_oc (m_X2_takeCharactert _ _ m_cO32_0) e_cK32_0
set_option maxRecDepth 100000 in
theorem e_cL32_0 : f_X2_readSlott [zR 2, zI 0] hw_32 (zrkL [(zI 0, hw_32), (zI 1, hw_32)]) = true := by decide +kernel
noncomputable def g_cL32_0 : List zV → zH 7 → zP 7 → Bool := zocs [zR 2, zI 0] hw_32 [(zI 0, hw_32), (zI 1, hw_32)]
theorem m_cL32_0 : zMet X_X2_readSlot yX2_readSlot 3 g_cL32_0 := zMet_oc (m_X2_readSlott) e_cL32_0
set_option maxRecDepth 100000 in
theorem e_cB32_0 : (f_X2_readInBracketst g_cS32_1) [zR 2, zI 0] hv_32 (zrkL [(zI 0, hw_32), (zI 1, hw_32)]) = true := by decide +kernel
noncomputable def g_cB32_0 : List zV → zH 7 → zP 7 → Bool := zocs [zR 2, zI 0] hv_32 [(zI 0, hw_32), (zI 1, hw_32)]
theorem m_cB32_0 : zMet X_X2_readInBrackets yX2_readInBrackets 91 g_cB32_0 := zMet_oc (m_X2_readInBracketst 88 _ m_cS32_1) e_cB32_0
set_option maxRecDepth 100000 in
theorem e_cF32_0 : (f_X2_readFactort g_cB32_0 g_cL32_0 g_cK32_0) [zR 2, zI 0] hw_32 (zrkL [(zI 0, hw_32), (zI 1, hw_32)]) = true := by decide +kernel
noncomputable def g_cF32_0 : List zV → zH 7 → zP 7 → Bool := zocs [zR 2, zI 0] hw_32 [(zI 0, hw_32), (zI 1, hw_32)]
theorem m_cF32_0 : zMet X_X2_readFactor yX2_readFactor 102 g_cF32_0 := zMet_oc (m_X2_readFactort _ _ _ _ _ _ m_cB32_0 m_cL32_0 m_cK32_0) e_cF32_0
set_option maxRecDepth 100000 in
theorem e_cT32_0 : (f_X2_readTermt g_cF32_0 g_X2_multiply_32) [zR 2, zI 0] hw_32 (zrkL [(zI 0, hw_32), (zI 1, hw_32)]) = true := by decide +kernel
noncomputable def g_cT32_0 : List zV → zH 7 → zP 7 → Bool := zocs [zR 2, zI 0] hw_32 [(zI 0, hw_32), (zI 1, hw_32)]
theorem m_cT32_0 : zMet X_X2_readTerm yX2_readTerm 106 g_cT32_0 := zMet_oc (m_X2_readTermt _ _ _ _ m_cF32_0 mg_X2_multiply_32) e_cT32_0
set_option maxRecDepth 100000 in
theorem e_cS32_0 : (f_X2_readSumt g_cT32_0 g_X2_add_32) [zR 2, zI 0] hw_32 (zrkL [(zI 0, hw_32), (zI 1, hw_32)]) = true := by decide +kernel
noncomputable def g_cS32_0 : List zV → zH 7 → zP 7 → Bool := zocs [zR 2, zI 0] hw_32 [(zI 0, hw_32), (zI 1, hw_32)]
theorem m_cS32_0 : zMet X_X2_readSum yX2_readSum 110 g_cS32_0 := zMet_oc (m_X2_readSumt _ _ _ _ m_cT32_0 mg_X2_add_32) e_cS32_0
noncomputable def hw_32_t : zH 7 := (show zT 7 from ((((((zk_99_zs2_59_z32_readC_1, ((22, 2, 4), (0, 200, zun 40 200 4294967296))), zk_99_zs2_59_z32_readC_4), zk_99_zs2_59_z32_readC_6), zk_99_zs2_59_z32_readC_7), zk_99_zs2_59_z32_readC_9), zO6), (62, (0, 0)))
set_option maxRecDepth 100000 in
theorem e_textC_32 : (zcutR 1 6 (f_X8_textt (f_X2_readt g_cS32_0))) [zR 1, zI 4294967296] hw_32 (zrkL [(zI 4294967296, hw_32_t)]) = true := by decide +kernel
noncomputable def g_textC_32 {d : Nat} : List zV → zH d → zP d → Bool := zsmyL [(0, 0), (1, 5), (1, 4), (3, 0), (2, 0), (5, 2), (2, 1), (7, 0), (7, 1), (7, 2), (7, 3), (7, 4), (2, 2), (13, 0), (13, 1), (13, 2), (13, 3), (13, 4), (2, 3), (19, 0), (19, 1), (19, 2), (19, 3), (19, 4), (2, 4), (2, 5), (2, 6), (2, 7), (1, 2), (29, 0), (29, 1), (29, 2), (29, 3), (29, 4), (29, 5), (2, 12), (36, 3), (37, 0), (37, 1), (37, 2), (38, 2), (39, 2), (40, 2), (36, 7), (36, 12), (45, 0), (45, 1), (45, 2), (36, 11), (49, 0), (49, 1), (49, 2), (2, 13), (53, 2), (53, 6), (55, 0), (55, 1), (55, 2), (53, 9), (59, 0), (59, 1), (59, 2)] [zR 1, zI 4294967296] hw_32 [(zI 4294967296, hw_32_t)]
theorem m_textC_32 {d : Nat} : zMet (d := d) X_X8_text yX8_text 115 g_textC_32 := zMet_smL (zMet_cutR (m_X8_textt _ _ (m_X2_readt _ _ m_cS32_0))) e_textC_32
end
