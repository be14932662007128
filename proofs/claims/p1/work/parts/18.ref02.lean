/-! the reference, by program -/
abbrev X_X9_grows : zM := (RX9, cX9_grows, 5, none, "grows")
noncomputable def b_X9_grows {d : Nat} (self : List zV → zH d → zP d → Bool) (P : zP d) : zK d := (xild 2 (xif0 t0eq (xpI 0 (xist 4 (xloop (fun r7 => (xild 4 (xpI 6 (xcmp tge (xald 0 (xgfR 25 4 (xald 0 (xgfI 25 2 (xild 1 (xast1 0 (fun v => v) (xald 0 (xdup (xgfI 25 2 (xpI 1 (xbin zadd (xpfI 25 2 (xvret P))))))))))))) (xald 0 (xgfR 25 3 (xpI 6 (xald 0 (xgfI 25 2 (xbin zmul (xild 4 (xbin zadd (xild 4 (xild 1 (xjoin (xast1 0 (fun v => v) (xinc 4 1 r7)) (fun j45 => (xcmp tge (xpI 0 j45) (xald 0 (xgfR 25 13 (xild 4 (xald1 0 j45))))))))))))))))))))) 100000))) (xild 2 (xild 3 (xmm zmin (xist 4 (xloop (fun r80 => (xild 4 (xif0 t0le (xvret P) (xald 0 (xgfR 25 13 (xild 1 (xild 4 (xast1 0 (fun v => v) (xald 0 (xild 1 (xpI 1 (xbin zadd (xild 2 (xild 4 (xbin zsub (xild 4 (xcV 25 4 0 0 self (xinc 4 4294967295 r80)))))))))))))))))) 100000)))))))
set_option maxRecDepth 100000 in
set_option maxHeartbeats 4000000 in
theorem s_X9_grows {d : Nat} (n : Nat) (self : List zV → zH d → zP d → Bool) (hself : zMet X_X9_grows yX9_grows (1 + n) self) (P : zP d) : zSim X_X9_grows (1 + (n + 1)) P 0 (b_X9_grows self P) := by
  unfold b_X9_grows
  refine sm_iload_n (pc := 0) (n := 2) dX9_grows_0 rfl ?_
  refine sm_if_ne (pc := 1) (tgt := 73) dX9_grows_1 (by decide) ?_ ?_
  · skip
    refine sm_iload_n (pc := 73) (n := 2) dX9_grows_73 rfl ?_
    refine sm_iload_n (pc := 74) (n := 3) dX9_grows_74 rfl ?_
    refine sm_mmin (pc := 75) wd_917 wd_76 wd_6 wd_77 (by omega) dX9_grows_75 ?_
    refine sm_istore (pc := 78) (n := 4) dX9_grows_78 ?_
    refine sm_loop (fun r80 hr80 => ?_) _
    refine sm_iload (pc := 80) (n := 4) dX9_grows_80 ?_
    refine sm_if_le (pc := 82) (tgt := 112) dX9_grows_82 (by decide) ?_ ?_
    · skip
      exact sm_vreturn (pc := 112) dX9_grows_112 rfl
    · skip
      refine sm_aload_n (pc := 85) (n := 0) dX9_grows_85 rfl ?_
      refine sm_getfieldR (pc := 86) (ci := 9) (n := 13) (C := RX9) (T := TX9) (N := 63) rfl rfl inz9 rfl (by decide) rfl wd_1031 rfl dX9_grows_86 ?_
      refine sm_iload_n (pc := 89) (n := 1) dX9_grows_89 rfl ?_
      refine sm_iload (pc := 90) (n := 4) dX9_grows_90 ?_
      refine sm_iastore (pc := 92) dX9_grows_92 ?_
      refine sm_aload_n (pc := 93) (n := 0) dX9_grows_93 rfl ?_
      refine sm_iload_n (pc := 94) (n := 1) dX9_grows_94 rfl ?_
      refine sm_iconst (pc := 95) dX9_grows_95 zc_i_1 ?_
      refine sm_iadd (pc := 96) dX9_grows_96 ?_
      refine sm_iload_n (pc := 97) (n := 2) dX9_grows_97 rfl ?_
      refine sm_iload (pc := 98) (n := 4) dX9_grows_98 ?_
      refine sm_isub (pc := 100) dX9_grows_100 ?_
      refine sm_iload (pc := 101) (n := 4) dX9_grows_101 ?_
      refine sm_cV (pc := 103) (ci := 9) (n := 4) (mc := 0) (ms := 0) rfl hself (zrunV (n := 3) (ci := 9) rfl rfl wd_916 wd_14 wd_913 wd_915 ws_54 (by decide) (by omega) (by decide) dX9_grows_103) ?_
      refine sm_iinc (pc := 106) (n := 4) dX9_grows_106 zc_i_m1 ?_
      refine sm_goto (pc := 109) (tgt := 80) dX9_grows_109 (by decide) ?_
      exact hr80
  · skip
    refine sm_iconst (pc := 4) dX9_grows_4 zc_i_0 ?_
    refine sm_istore (pc := 5) (n := 4) dX9_grows_5 ?_
    refine sm_loop (fun r7 hr7 => ?_) _
    refine sm_iload (pc := 7) (n := 4) dX9_grows_7 ?_
    refine sm_bipush (pc := 9) dX9_grows_9 zc_b_6 ?_
    refine sm_icmp_ge (pc := 11) (tgt := 52) dX9_grows_11 (by decide) ?_ ?_
    · skip
      refine sm_aload_n (pc := 52) (n := 0) dX9_grows_52 rfl ?_
      refine sm_getfieldR (pc := 53) (ci := 9) (n := 4) (C := RX9) (T := TX9) (N := 63) rfl rfl inz9 rfl (by decide) rfl wd_1022 rfl dX9_grows_53 ?_
      refine sm_aload_n (pc := 56) (n := 0) dX9_grows_56 rfl ?_
      refine sm_getfieldI (pc := 57) (ci := 9) (n := 2) (C := RX9) (T := TX9) (N := 63) rfl rfl inz9 rfl (by decide) rfl wd_1020 rfl dX9_grows_57 ?_
      refine sm_iload_n (pc := 60) (n := 1) dX9_grows_60 rfl ?_
      refine sm_iastore (pc := 61) dX9_grows_61 ?_
      refine sm_aload_n (pc := 62) (n := 0) dX9_grows_62 rfl ?_
      refine sm_dup (pc := 63) dX9_grows_63 ?_
      refine sm_getfieldI (pc := 64) (ci := 9) (n := 2) (C := RX9) (T := TX9) (N := 63) rfl rfl inz9 rfl (by decide) rfl wd_1020 rfl dX9_grows_64 ?_
      refine sm_iconst (pc := 67) dX9_grows_67 zc_i_1 ?_
      refine sm_iadd (pc := 68) dX9_grows_68 ?_
      refine sm_putI (pc := 69) (ci := 9) (n := 2) (ty := tyX9 2) rfl (by decide) rfl rfl (zput (C := RX9) (T := TX9) (N := 63) (ty0 := tyX9) (ty := tyX9 2) inz9 tyX9_ok nmX9 rfl (by decide) wd_1020 rfl rfl dX9_grows_69) ?_
      exact sm_vreturn (pc := 72) dX9_grows_72 rfl
    · skip
      refine sm_aload_n (pc := 14) (n := 0) dX9_grows_14 rfl ?_
      refine sm_getfieldR (pc := 15) (ci := 9) (n := 3) (C := RX9) (T := TX9) (N := 63) rfl rfl inz9 rfl (by decide) rfl wd_1021 rfl dX9_grows_15 ?_
      refine sm_bipush (pc := 18) dX9_grows_18 zc_b_6 ?_
      refine sm_aload_n (pc := 20) (n := 0) dX9_grows_20 rfl ?_
      refine sm_getfieldI (pc := 21) (ci := 9) (n := 2) (C := RX9) (T := TX9) (N := 63) rfl rfl inz9 rfl (by decide) rfl wd_1020 rfl dX9_grows_21 ?_
      refine sm_imul (pc := 24) dX9_grows_24 ?_
      refine sm_iload (pc := 25) (n := 4) dX9_grows_25 ?_
      refine sm_iadd (pc := 27) dX9_grows_27 ?_
      refine sm_iload (pc := 28) (n := 4) dX9_grows_28 ?_
      refine sm_iload_n (pc := 30) (n := 1) dX9_grows_30 rfl ?_
      refine sm_join (pc := 31) (pc' := 45) ?_ (fun j45 hj45 => ?_)
      · skip
        refine sm_iastore (pc := 45) dX9_grows_45 ?_
        refine sm_iinc (pc := 46) (n := 4) dX9_grows_46 zc_i_1 ?_
        refine sm_goto (pc := 49) (tgt := 7) dX9_grows_49 (by decide) ?_
        exact hr7
      refine sm_icmp_ge (pc := 31) (tgt := 44) dX9_grows_31 (by decide) ?_ ?_
      · skip
        refine sm_iconst (pc := 44) dX9_grows_44 zc_i_0 ?_
        exact hj45
      · skip
        refine sm_aload_n (pc := 34) (n := 0) dX9_grows_34 rfl ?_
        refine sm_getfieldR (pc := 35) (ci := 9) (n := 13) (C := RX9) (T := TX9) (N := 63) rfl rfl inz9 rfl (by decide) rfl wd_1031 rfl dX9_grows_35 ?_
        refine sm_iload (pc := 38) (n := 4) dX9_grows_38 ?_
        refine sm_iaload (pc := 40) dX9_grows_40 ?_
        refine sm_goto (pc := 41) (tgt := 45) dX9_grows_41 (by decide) ?_
        exact hj45
noncomputable def f_X9_grows {d : Nat} : List zV → zH d → zP d → Bool := zrec 5 b_X9_grows 8
theorem m_X9_grows {d : Nat} : zMet (d := d) X_X9_grows yX9_grows 9 f_X9_grows := zmet_rec (X := X_X9_grows) (fr := 1) (by decide) rfl rfl (fun n f hf P => s_X9_grows n f hf P) 8

abbrev X_X9_classes : zM := (RX9, cX9_classes, 7, none, "classes")
noncomputable def b_X9_classes {d : Nat} (P : zP d) : zK d := (xald 0 (xpI 1 (xpfI 25 12 (xpI 2 (xist 1 (xloop (fun r7 => (xild 1 (xald 0 (xgfI 25 0 (xcmp tle (xald 0 (xdup (xgfI 25 12 (xild 1 (xbin zmul (xpfI 25 12 (xinc 1 1 r7))))))) (xald 0 (xpI 0 (xpfI 25 11 (xpI 0 (xist 1 (xloop (fun r38 => (xild 1 (xald 0 (xgfI 25 2 (xcmp tge (xvret P) (xpI 1 (xist 2 (xpI 0 (xist 3 (xpI 0 (xist 4 (xald 0 (xgfR 25 6 (xild 1 (xpI 1 (xast1 0 (fun v => v) (xald 0 (xgfR 25 8 (xild 1 (xpI 1 (xast1 1 (fun v => zand v 1) (xald 0 (xgfR 25 9 (xild 1 (xpI 1 (xast1 0 (fun v => v) (xald 0 (xgfR 25 7 (xild 1 (xpI 1 (xast1 1 (fun v => zand v 1) (xpI 0 (xist 5 (xloop (fun r84 => (xild 5 (xald 0 (xgfR 25 4 (xild 1 (xald1 0 (xcmp tge (xald 0 (xgfR 25 7 (xild 1 (xild 4 (xald 0 (xgfI 25 1 (xjoin (xast1 1 (fun v => zand v 1) (xald 0 (xgfR 25 5 (xild 1 (xald 0 (xgfI 25 12 (xild 2 (xbinN zdiv (xast1 0 (fun v => v) (xald 0 (xgfR 25 10 (xild 1 (xald 0 (xgfR 25 7 (xild 1 (xald1 1 (xjoin (xast1 0 (fun v => v) (xald 0 (xdup (xgfI 25 11 (xald 0 (xgfR 25 7 (xild 1 (xald1 1 (xcS 1 0 0 f_X9_one (xbin zadd (xpfI 25 11 (xinc 1 1 r38)))))))))))) (fun j270 => (xif0 t0eq (xpI 4294967295 j270) (xald 0 (xgfI 25 11 j270))))))))))))))))))))) (fun j235 => (xcmp tge (xpI 0 j235) (xpI 1 j235)))))))))) (xald 0 (xild 1 (xild 5 (xcV 25 3 0 0 f_X9_partOf (xist 6 (xild 5 (xjoin (xist 3 (xild 4 (xild 3 (xmm zmax (xist 4 (xild 2 (xild 6 (xild 3 (xbin zmul (xbin zmul (xist 2 (xald 0 (xgfR 25 6 (xild 1 (xald 0 (xgfR 25 6 (xild 1 (xald1 0 (xald 0 (xgfR 25 6 (xild 1 (xald1 0 (xild 6 (xcS 2 0 0 f_X9_gcd (xbinN zdiv (xild 6 (xbin zmul (xast1 0 (fun v => v) (xild 6 (xald 0 (xgfI 25 1 (xbinN zrem (xjoin (xild 6 (xpI 2 (xbinN zrem (xjoin (xinc 5 1 r84) (fun j210 => (xif0 t0eq (xald 0 (xgfR 25 9 (xild 1 (xald 0 (xgfR 25 9 (xild 1 (xald1 0 (xun zneg (xast1 0 (fun v => v) j210))))))))) j210)))))) (fun j190 => (xif0 t0eq (xald 0 (xgfR 25 8 (xild 1 (xpI 0 (xast1 1 (fun v => zand v 1) j190))))) j190))))))))))))))))))))))))))))))))))) (fun j130 => (xjoin (xpI 1 j130) (fun j129 => (xif0 t0le j129 (xald 0 (xild 1 (xild 5 (xpI 1 (xbin zsub (xcV 25 3 0 0 f_X9_partOf (xild 6 (xcmp Nat.beq (xild 3 (xpI 1 (xbin zadd j130))) j129)))))))))))))))))))))))))) 100000)))))))))))))))))))))))))))))))))) 100000))))))))))) 100000))))))
set_option maxRecDepth 100000 in
set_option maxHeartbeats 4000000 in
theorem s_X9_classes {d : Nat} (P : zP d) : zSim X_X9_classes 2 P 0 (b_X9_classes P) := by
  unfold b_X9_classes
  refine sm_aload_n (pc := 0) (n := 0) dX9_classes_0 rfl ?_
  refine sm_iconst (pc := 1) dX9_classes_1 zc_i_1 ?_
  refine sm_putI (pc := 2) (ci := 9) (n := 12) (ty := tyX9 12) rfl (by decide) rfl rfl (zput (C := RX9) (T := TX9) (N := 63) (ty0 := tyX9) (ty := tyX9 12) inz9 tyX9_ok nmX9 rfl (by decide) wd_1030 rfl rfl dX9_classes_2) ?_
  refine sm_iconst (pc := 5) dX9_classes_5 zc_i_2 ?_
  refine sm_istore_n (pc := 6) (n := 1) dX9_classes_6 rfl ?_
  refine sm_loop (fun r7 hr7 => ?_) _
  refine sm_iload_n (pc := 7) (n := 1) dX9_classes_7 rfl ?_
  refine sm_aload_n (pc := 8) (n := 0) dX9_classes_8 rfl ?_
  refine sm_getfieldI (pc := 9) (ci := 9) (n := 0) (C := RX9) (T := TX9) (N := 63) rfl rfl inz9 rfl (by decide) rfl wd_1018 rfl dX9_classes_9 ?_
  refine sm_icmp_gt (pc := 12) (tgt := 31) dX9_classes_12 (by decide) ?_ ?_
  · skip
    refine sm_aload_n (pc := 31) (n := 0) dX9_classes_31 rfl ?_
    refine sm_iconst (pc := 32) dX9_classes_32 zc_i_0 ?_
    refine sm_putI (pc := 33) (ci := 9) (n := 11) (ty := tyX9 11) rfl (by decide) rfl rfl (zput (C := RX9) (T := TX9) (N := 63) (ty0 := tyX9) (ty := tyX9 11) inz9 tyX9_ok nmX9 rfl (by decide) wd_1029 rfl rfl dX9_classes_33) ?_
    refine sm_iconst (pc := 36) dX9_classes_36 zc_i_0 ?_
    refine sm_istore_n (pc := 37) (n := 1) dX9_classes_37 rfl ?_
    refine sm_loop (fun r38 hr38 => ?_) _
    refine sm_iload_n (pc := 38) (n := 1) dX9_classes_38 rfl ?_
    refine sm_aload_n (pc := 39) (n := 0) dX9_classes_39 rfl ?_
    refine sm_getfieldI (pc := 40) (ci := 9) (n := 2) (C := RX9) (T := TX9) (N := 63) rfl rfl inz9 rfl (by decide) rfl wd_1020 rfl dX9_classes_40 ?_
    refine sm_icmp_ge (pc := 43) (tgt := 295) dX9_classes_43 (by decide) ?_ ?_
    · skip
      exact sm_vreturn (pc := 295) dX9_classes_295 rfl
    · skip
      refine sm_iconst (pc := 46) dX9_classes_46 zc_i_1 ?_
      refine sm_istore_n (pc := 47) (n := 2) dX9_classes_47 rfl ?_
      refine sm_iconst (pc := 48) dX9_classes_48 zc_i_0 ?_
      refine sm_istore_n (pc := 49) (n := 3) dX9_classes_49 rfl ?_
      refine sm_iconst (pc := 50) dX9_classes_50 zc_i_0 ?_
      refine sm_istore (pc := 51) (n := 4) dX9_classes_51 ?_
      refine sm_aload_n (pc := 53) (n := 0) dX9_classes_53 rfl ?_
      refine sm_getfieldR (pc := 54) (ci := 9) (n := 6) (C := RX9) (T := TX9) (N := 63) rfl rfl inz9 rfl (by decide) rfl wd_1024 rfl dX9_classes_54 ?_
      refine sm_iload_n (pc := 57) (n := 1) dX9_classes_57 rfl ?_
      refine sm_iconst (pc := 58) dX9_classes_58 zc_i_1 ?_
      refine sm_iastore (pc := 59) dX9_classes_59 ?_
      refine sm_aload_n (pc := 60) (n := 0) dX9_classes_60 rfl ?_
      refine sm_getfieldR (pc := 61) (ci := 9) (n := 8) (C := RX9) (T := TX9) (N := 63) rfl rfl inz9 rfl (by decide) rfl wd_1026 rfl dX9_classes_61 ?_
      refine sm_iload_n (pc := 64) (n := 1) dX9_classes_64 rfl ?_
      refine sm_iconst (pc := 65) dX9_classes_65 zc_i_1 ?_
      refine sm_bastore (pc := 66) dX9_classes_66 ?_
      refine sm_aload_n (pc := 67) (n := 0) dX9_classes_67 rfl ?_
      refine sm_getfieldR (pc := 68) (ci := 9) (n := 9) (C := RX9) (T := TX9) (N := 63) rfl rfl inz9 rfl (by decide) rfl wd_1027 rfl dX9_classes_68 ?_
      refine sm_iload_n (pc := 71) (n := 1) dX9_classes_71 rfl ?_
      refine sm_iconst (pc := 72) dX9_classes_72 zc_i_1 ?_
      refine sm_iastore (pc := 73) dX9_classes_73 ?_
      refine sm_aload_n (pc := 74) (n := 0) dX9_classes_74 rfl ?_
      refine sm_getfieldR (pc := 75) (ci := 9) (n := 7) (C := RX9) (T := TX9) (N := 63) rfl rfl inz9 rfl (by decide) rfl wd_1025 rfl dX9_classes_75 ?_
      refine sm_iload_n (pc := 78) (n := 1) dX9_classes_78 rfl ?_
      refine sm_iconst (pc := 79) dX9_classes_79 zc_i_1 ?_
      refine sm_bastore (pc := 80) dX9_classes_80 ?_
      refine sm_iconst (pc := 81) dX9_classes_81 zc_i_0 ?_
      refine sm_istore (pc := 82) (n := 5) dX9_classes_82 ?_
      refine sm_loop (fun r84 hr84 => ?_) _
      refine sm_iload (pc := 84) (n := 5) dX9_classes_84 ?_
      refine sm_aload_n (pc := 86) (n := 0) dX9_classes_86 rfl ?_
      refine sm_getfieldR (pc := 87) (ci := 9) (n := 4) (C := RX9) (T := TX9) (N := 63) rfl rfl inz9 rfl (by decide) rfl wd_1022 rfl dX9_classes_87 ?_
      refine sm_iload_n (pc := 90) (n := 1) dX9_classes_90 rfl ?_
      refine sm_iaload (pc := 91) dX9_classes_91 ?_
      refine sm_icmp_ge (pc := 92) (tgt := 216) dX9_classes_92 (by decide) ?_ ?_
      · skip
        refine sm_aload_n (pc := 216) (n := 0) dX9_classes_216 rfl ?_
        refine sm_getfieldR (pc := 217) (ci := 9) (n := 7) (C := RX9) (T := TX9) (N := 63) rfl rfl inz9 rfl (by decide) rfl wd_1025 rfl dX9_classes_217 ?_
        refine sm_iload_n (pc := 220) (n := 1) dX9_classes_220 rfl ?_
        refine sm_iload (pc := 221) (n := 4) dX9_classes_221 ?_
        refine sm_aload_n (pc := 223) (n := 0) dX9_classes_223 rfl ?_
        refine sm_getfieldI (pc := 224) (ci := 9) (n := 1) (C := RX9) (T := TX9) (N := 63) rfl rfl inz9 rfl (by decide) rfl wd_1019 rfl dX9_classes_224 ?_
        refine sm_join (pc := 227) (pc' := 235) ?_ (fun j235 hj235 => ?_)
        · skip
          refine sm_bastore (pc := 235) dX9_classes_235 ?_
          refine sm_aload_n (pc := 236) (n := 0) dX9_classes_236 rfl ?_
          refine sm_getfieldR (pc := 237) (ci := 9) (n := 5) (C := RX9) (T := TX9) (N := 63) rfl rfl inz9 rfl (by decide) rfl wd_1023 rfl dX9_classes_237 ?_
          refine sm_iload_n (pc := 240) (n := 1) dX9_classes_240 rfl ?_
          refine sm_aload_n (pc := 241) (n := 0) dX9_classes_241 rfl ?_
          refine sm_getfieldI (pc := 242) (ci := 9) (n := 12) (C := RX9) (T := TX9) (N := 63) rfl rfl inz9 rfl (by decide) rfl wd_1030 rfl dX9_classes_242 ?_
          refine sm_iload_n (pc := 245) (n := 2) dX9_classes_245 rfl ?_
          refine sm_idiv (pc := 246) dX9_classes_246 ?_
          refine sm_iastore (pc := 247) dX9_classes_247 ?_
          refine sm_aload_n (pc := 248) (n := 0) dX9_classes_248 rfl ?_
          refine sm_getfieldR (pc := 249) (ci := 9) (n := 10) (C := RX9) (T := TX9) (N := 63) rfl rfl inz9 rfl (by decide) rfl wd_1028 rfl dX9_classes_249 ?_
          refine sm_iload_n (pc := 252) (n := 1) dX9_classes_252 rfl ?_
          refine sm_aload_n (pc := 253) (n := 0) dX9_classes_253 rfl ?_
          refine sm_getfieldR (pc := 254) (ci := 9) (n := 7) (C := RX9) (T := TX9) (N := 63) rfl rfl inz9 rfl (by decide) rfl wd_1025 rfl dX9_classes_254 ?_
          refine sm_iload_n (pc := 257) (n := 1) dX9_classes_257 rfl ?_
          refine sm_baload (pc := 258) dX9_classes_258 ?_
          refine sm_join (pc := 259) (pc' := 270) ?_ (fun j270 hj270 => ?_)
          · skip
            refine sm_iastore (pc := 270) dX9_classes_270 ?_
            refine sm_aload_n (pc := 271) (n := 0) dX9_classes_271 rfl ?_
            refine sm_dup (pc := 272) dX9_classes_272 ?_
            refine sm_getfieldI (pc := 273) (ci := 9) (n := 11) (C := RX9) (T := TX9) (N := 63) rfl rfl inz9 rfl (by decide) rfl wd_1029 rfl dX9_classes_273 ?_
            refine sm_aload_n (pc := 276) (n := 0) dX9_classes_276 rfl ?_
            refine sm_getfieldR (pc := 277) (ci := 9) (n := 7) (C := RX9) (T := TX9) (N := 63) rfl rfl inz9 rfl (by decide) rfl wd_1025 rfl dX9_classes_277 ?_
            refine sm_iload_n (pc := 280) (n := 1) dX9_classes_280 rfl ?_
            refine sm_baload (pc := 281) dX9_classes_281 ?_
            refine sm_cS (pc := 282) (n := 1) (mc := 0) (ms := 0) m_X9_one (zrunS (n := 1) wd_932 wd_14 wd_930 wd_931 (by decide) (by decide) (by decide) dX9_classes_282) ?_
            refine sm_iadd (pc := 285) dX9_classes_285 ?_
            refine sm_putI (pc := 286) (ci := 9) (n := 11) (ty := tyX9 11) rfl (by decide) rfl rfl (zput (C := RX9) (T := TX9) (N := 63) (ty0 := tyX9) (ty := tyX9 11) inz9 tyX9_ok nmX9 rfl (by decide) wd_1029 rfl rfl dX9_classes_286) ?_
            refine sm_iinc (pc := 289) (n := 1) dX9_classes_289 zc_i_1 ?_
            refine sm_goto (pc := 292) (tgt := 38) dX9_classes_292 (by decide) ?_
            exact hr38
          refine sm_if_eq (pc := 259) (tgt := 269) dX9_classes_259 (by decide) ?_ ?_
          · skip
            refine sm_iconst (pc := 269) dX9_classes_269 zc_i_m1 ?_
            exact hj270
          · skip
            refine sm_aload_n (pc := 262) (n := 0) dX9_classes_262 rfl ?_
            refine sm_getfieldI (pc := 263) (ci := 9) (n := 11) (C := RX9) (T := TX9) (N := 63) rfl rfl inz9 rfl (by decide) rfl wd_1029 rfl dX9_classes_263 ?_
            refine sm_goto (pc := 266) (tgt := 270) dX9_classes_266 (by decide) ?_
            exact hj270
        refine sm_icmp_ge (pc := 227) (tgt := 234) dX9_classes_227 (by decide) ?_ ?_
        · skip
          refine sm_iconst (pc := 234) dX9_classes_234 zc_i_0 ?_
          exact hj235
        · skip
          refine sm_iconst (pc := 230) dX9_classes_230 zc_i_1 ?_
          refine sm_goto (pc := 231) (tgt := 235) dX9_classes_231 (by decide) ?_
          exact hj235
      · skip
        refine sm_aload_n (pc := 95) (n := 0) dX9_classes_95 rfl ?_
        refine sm_iload_n (pc := 96) (n := 1) dX9_classes_96 rfl ?_
        refine sm_iload (pc := 97) (n := 5) dX9_classes_97 ?_
        refine sm_cV (pc := 99) (ci := 9) (n := 3) (mc := 0) (ms := 0) rfl m_X9_partOf (zrunV (n := 2) (ci := 9) rfl rfl wd_925 wd_14 wd_922 wd_924 ws_56 (by decide) (by decide) (by decide) dX9_classes_99) ?_
        refine sm_istore (pc := 102) (n := 6) dX9_classes_102 ?_
        refine sm_iload (pc := 104) (n := 5) dX9_classes_104 ?_
        refine sm_join (pc := 106) (pc' := 130) ?_ (fun j130 hj130 => ?_)
        · skip
          refine sm_istore_n (pc := 130) (n := 3) dX9_classes_130 rfl ?_
          refine sm_iload (pc := 131) (n := 4) dX9_classes_131 ?_
          refine sm_iload_n (pc := 133) (n := 3) dX9_classes_133 rfl ?_
          refine sm_mmax (pc := 134) wd_926 wd_104 wd_6 wd_105 (by decide) dX9_classes_134 ?_
          refine sm_istore (pc := 137) (n := 4) dX9_classes_137 ?_
          refine sm_iload_n (pc := 139) (n := 2) dX9_classes_139 rfl ?_
          refine sm_iload (pc := 140) (n := 6) dX9_classes_140 ?_
          refine sm_iload_n (pc := 142) (n := 3) dX9_classes_142 rfl ?_
          refine sm_imul (pc := 143) dX9_classes_143 ?_
          refine sm_imul (pc := 144) dX9_classes_144 ?_
          refine sm_istore_n (pc := 145) (n := 2) dX9_classes_145 rfl ?_
          refine sm_aload_n (pc := 146) (n := 0) dX9_classes_146 rfl ?_
          refine sm_getfieldR (pc := 147) (ci := 9) (n := 6) (C := RX9) (T := TX9) (N := 63) rfl rfl inz9 rfl (by decide) rfl wd_1024 rfl dX9_classes_147 ?_
          refine sm_iload_n (pc := 150) (n := 1) dX9_classes_150 rfl ?_
          refine sm_aload_n (pc := 151) (n := 0) dX9_classes_151 rfl ?_
          refine sm_getfieldR (pc := 152) (ci := 9) (n := 6) (C := RX9) (T := TX9) (N := 63) rfl rfl inz9 rfl (by decide) rfl wd_1024 rfl dX9_classes_152 ?_
          refine sm_iload_n (pc := 155) (n := 1) dX9_classes_155 rfl ?_
          refine sm_iaload (pc := 156) dX9_classes_156 ?_
          refine sm_aload_n (pc := 157) (n := 0) dX9_classes_157 rfl ?_
          refine sm_getfieldR (pc := 158) (ci := 9) (n := 6) (C := RX9) (T := TX9) (N := 63) rfl rfl inz9 rfl (by decide) rfl wd_1024 rfl dX9_classes_158 ?_
          refine sm_iload_n (pc := 161) (n := 1) dX9_classes_161 rfl ?_
          refine sm_iaload (pc := 162) dX9_classes_162 ?_
          refine sm_iload (pc := 163) (n := 6) dX9_classes_163 ?_
          refine sm_cS (pc := 165) (n := 2) (mc := 0) (ms := 0) m_X9_gcd (zrunS (n := 2) wd_929 wd_14 wd_927 wd_928 (by decide) (by decide) (by decide) dX9_classes_165) ?_
          refine sm_idiv (pc := 168) dX9_classes_168 ?_
          refine sm_iload (pc := 169) (n := 6) dX9_classes_169 ?_
          refine sm_imul (pc := 171) dX9_classes_171 ?_
          refine sm_iastore (pc := 172) dX9_classes_172 ?_
          refine sm_iload (pc := 173) (n := 6) dX9_classes_173 ?_
          refine sm_aload_n (pc := 175) (n := 0) dX9_classes_175 rfl ?_
          refine sm_getfieldI (pc := 176) (ci := 9) (n := 1) (C := RX9) (T := TX9) (N := 63) rfl rfl inz9 rfl (by decide) rfl wd_1019 rfl dX9_classes_176 ?_
          refine sm_irem (pc := 179) dX9_classes_179 ?_
          refine sm_join (pc := 180) (pc' := 190) ?_ (fun j190 hj190 => ?_)
          · skip
            refine sm_iload (pc := 190) (n := 6) dX9_classes_190 ?_
            refine sm_iconst (pc := 192) dX9_classes_192 zc_i_2 ?_
            refine sm_irem (pc := 193) dX9_classes_193 ?_
            refine sm_join (pc := 194) (pc' := 210) ?_ (fun j210 hj210 => ?_)
            · skip
              refine sm_iinc (pc := 210) (n := 5) dX9_classes_210 zc_i_1 ?_
              refine sm_goto (pc := 213) (tgt := 84) dX9_classes_213 (by decide) ?_
              exact hr84
            refine sm_if_ne (pc := 194) (tgt := 210) dX9_classes_194 (by decide) ?_ ?_
            · skip
              exact hj210
            · skip
              refine sm_aload_n (pc := 197) (n := 0) dX9_classes_197 rfl ?_
              refine sm_getfieldR (pc := 198) (ci := 9) (n := 9) (C := RX9) (T := TX9) (N := 63) rfl rfl inz9 rfl (by decide) rfl wd_1027 rfl dX9_classes_198 ?_
              refine sm_iload_n (pc := 201) (n := 1) dX9_classes_201 rfl ?_
              refine sm_aload_n (pc := 202) (n := 0) dX9_classes_202 rfl ?_
              refine sm_getfieldR (pc := 203) (ci := 9) (n := 9) (C := RX9) (T := TX9) (N := 63) rfl rfl inz9 rfl (by decide) rfl wd_1027 rfl dX9_classes_203 ?_
              refine sm_iload_n (pc := 206) (n := 1) dX9_classes_206 rfl ?_
              refine sm_iaload (pc := 207) dX9_classes_207 ?_
              refine sm_ineg (pc := 208) dX9_classes_208 ?_
              refine sm_iastore (pc := 209) dX9_classes_209 ?_
              exact hj210
          refine sm_if_ne (pc := 180) (tgt := 190) dX9_classes_180 (by decide) ?_ ?_
          · skip
            exact hj190
          · skip
            refine sm_aload_n (pc := 183) (n := 0) dX9_classes_183 rfl ?_
            refine sm_getfieldR (pc := 184) (ci := 9) (n := 8) (C := RX9) (T := TX9) (N := 63) rfl rfl inz9 rfl (by decide) rfl wd_1026 rfl dX9_classes_184 ?_
            refine sm_iload_n (pc := 187) (n := 1) dX9_classes_187 rfl ?_
            refine sm_iconst (pc := 188) dX9_classes_188 zc_i_0 ?_
            refine sm_bastore (pc := 189) dX9_classes_189 ?_
            exact hj190
        refine sm_join (pc := 106) (pc' := 129) ?_ (fun j129 hj129 => ?_)
        · skip
          refine sm_iconst (pc := 129) dX9_classes_129 zc_i_1 ?_
          exact hj130
        refine sm_if_le (pc := 106) (tgt := 129) dX9_classes_106 (by decide) ?_ ?_
        · skip
          exact hj129
        · skip
          refine sm_aload_n (pc := 109) (n := 0) dX9_classes_109 rfl ?_
          refine sm_iload_n (pc := 110) (n := 1) dX9_classes_110 rfl ?_
          refine sm_iload (pc := 111) (n := 5) dX9_classes_111 ?_
          refine sm_iconst (pc := 113) dX9_classes_113 zc_i_1 ?_
          refine sm_isub (pc := 114) dX9_classes_114 ?_
          refine sm_cV (pc := 115) (ci := 9) (n := 3) (mc := 0) (ms := 0) rfl m_X9_partOf (zrunV (n := 2) (ci := 9) rfl rfl wd_925 wd_14 wd_922 wd_924 ws_56 (by decide) (by decide) (by decide) dX9_classes_115) ?_
          refine sm_iload (pc := 118) (n := 6) dX9_classes_118 ?_
          refine sm_icmp_ne (pc := 120) (tgt := 129) dX9_classes_120 (by decide) ?_ ?_
          · skip
            exact hj129
          · skip
            refine sm_iload_n (pc := 123) (n := 3) dX9_classes_123 rfl ?_
            refine sm_iconst (pc := 124) dX9_classes_124 zc_i_1 ?_
            refine sm_iadd (pc := 125) dX9_classes_125 ?_
            refine sm_goto (pc := 126) (tgt := 130) dX9_classes_126 (by decide) ?_
            exact hj130
  · skip
    refine sm_aload_n (pc := 15) (n := 0) dX9_classes_15 rfl ?_
    refine sm_dup (pc := 16) dX9_classes_16 ?_
    refine sm_getfieldI (pc := 17) (ci := 9) (n := 12) (C := RX9) (T := TX9) (N := 63) rfl rfl inz9 rfl (by decide) rfl wd_1030 rfl dX9_classes_17 ?_
    refine sm_iload_n (pc := 20) (n := 1) dX9_classes_20 rfl ?_
    refine sm_imul (pc := 21) dX9_classes_21 ?_
    refine sm_putI (pc := 22) (ci := 9) (n := 12) (ty := tyX9 12) rfl (by decide) rfl rfl (zput (C := RX9) (T := TX9) (N := 63) (ty0 := tyX9) (ty := tyX9 12) inz9 tyX9_ok nmX9 rfl (by decide) wd_1030 rfl rfl dX9_classes_22) ?_
    refine sm_iinc (pc := 25) (n := 1) dX9_classes_25 zc_i_1 ?_
    refine sm_goto (pc := 28) (tgt := 7) dX9_classes_28 (by decide) ?_
    exact hr7
noncomputable def f_X9_classes {d : Nat} : List zV → zH d → zP d → Bool := zfn 7 b_X9_classes
theorem m_X9_classes {d : Nat} : zMet (d := d) X_X9_classes yX9_classes 2 f_X9_classes := zmet_mk (X := X_X9_classes) (by decide) rfl rfl s_X9_classes

abbrev X_X9_beadsOf : zM := (RX9, cX9_beadsOf, 4, (some .int), "beadsOf")
noncomputable def b_X9_beadsOf {d : Nat} (P : zP d) : zK d := (xpI 0 (xist 2 (xpI 0 (xist 3 (xloop (fun r4 => (xild 3 (xpI 6 (xcmp tge (xild 2 (xiret P)) (xild 2 (xpI 1 (xald 0 (xild 1 (xild 3 (xcV 25 3 0 0 f_X9_partOf (xpI 5 (xbin zadd (xild 3 (xbin zsub (xbin zshl (xbin zor (xist 2 (xinc 3 1 r4)))))))))))))))))) 100000)))))
set_option maxRecDepth 100000 in
set_option maxHeartbeats 4000000 in
theorem s_X9_beadsOf {d : Nat} (P : zP d) : zSim X_X9_beadsOf 2 P 0 (b_X9_beadsOf P) := by
  unfold b_X9_beadsOf
  refine sm_iconst (pc := 0) dX9_beadsOf_0 zc_i_0 ?_
  refine sm_istore_n (pc := 1) (n := 2) dX9_beadsOf_1 rfl ?_
  refine sm_iconst (pc := 2) dX9_beadsOf_2 zc_i_0 ?_
  refine sm_istore_n (pc := 3) (n := 3) dX9_beadsOf_3 rfl ?_
  refine sm_loop (fun r4 hr4 => ?_) _
  refine sm_iload_n (pc := 4) (n := 3) dX9_beadsOf_4 rfl ?_
  refine sm_bipush (pc := 5) dX9_beadsOf_5 zc_b_6 ?_
  refine sm_icmp_ge (pc := 7) (tgt := 31) dX9_beadsOf_7 (by decide) ?_ ?_
  · skip
    refine sm_iload_n (pc := 31) (n := 2) dX9_beadsOf_31 rfl ?_
    exact sm_ireturn (pc := 32) dX9_beadsOf_32 rfl
  · skip
    refine sm_iload_n (pc := 10) (n := 2) dX9_beadsOf_10 rfl ?_
    refine sm_iconst (pc := 11) dX9_beadsOf_11 zc_i_1 ?_
    refine sm_aload_n (pc := 12) (n := 0) dX9_beadsOf_12 rfl ?_
    refine sm_iload_n (pc := 13) (n := 1) dX9_beadsOf_13 rfl ?_
    refine sm_iload_n (pc := 14) (n := 3) dX9_beadsOf_14 rfl ?_
    refine sm_cV (pc := 15) (ci := 9) (n := 3) (mc := 0) (ms := 0) rfl m_X9_partOf (zrunV (n := 2) (ci := 9) rfl rfl wd_925 wd_14 wd_922 wd_924 ws_56 (by decide) (by decide) (by decide) dX9_beadsOf_15) ?_
    refine sm_iconst (pc := 18) dX9_beadsOf_18 zc_i_5 ?_
    refine sm_iadd (pc := 19) dX9_beadsOf_19 ?_
    refine sm_iload_n (pc := 20) (n := 3) dX9_beadsOf_20 rfl ?_
    refine sm_isub (pc := 21) dX9_beadsOf_21 ?_
    refine sm_ishl (pc := 22) dX9_beadsOf_22 ?_
    refine sm_ior (pc := 23) dX9_beadsOf_23 ?_
    refine sm_istore_n (pc := 24) (n := 2) dX9_beadsOf_24 rfl ?_
    refine sm_iinc (pc := 25) (n := 3) dX9_beadsOf_25 zc_i_1 ?_
    refine sm_goto (pc := 28) (tgt := 4) dX9_beadsOf_28 (by decide) ?_
    exact hr4
noncomputable def f_X9_beadsOf {d : Nat} : List zV → zH d → zP d → Bool := zfn 4 b_X9_beadsOf
theorem m_X9_beadsOf {d : Nat} : zMet (d := d) X_X9_beadsOf yX9_beadsOf 2 f_X9_beadsOf := zmet_mk (X := X_X9_beadsOf) (by decide) rfl rfl s_X9_beadsOf
