/-! the reference, by program -/
abbrev X_X9_grows : zM := (RX9, cX9_grows, 5, none, "grows")
noncomputable def lX9_grows_80 {d : Nat} (self : List zV → zH d → zP d → Bool) (P : zP d) (r80 : zK d) : zK d := (xild 4 (xif0 t0le (xvret P) (xald 0 (xgfR 25 13 (xild 1 (xild 4 (xast1 0 (fun v => v) (xald 0 (xild 1 (xpI 1 (xbin zadd (xild 2 (xild 4 (xbin zsub (xild 4 (xcV 25 4 0 0 self (xinc 4 4294967295 r80)))))))))))))))))
set_option maxRecDepth 100000 in
set_option maxHeartbeats 4000000 in
theorem slX9_grows_80 {d : Nat} (n : Nat) (self : List zV → zH d → zP d → Bool) (hself : zMet X_X9_grows yX9_grows (1 + n) self) (P : zP d) (r80 : zK d) (hr80 : zSim X_X9_grows (1 + (n + 1)) P 80 r80) : zSim X_X9_grows (1 + (n + 1)) P 80 (lX9_grows_80 self P r80) := by
  unfold lX9_grows_80
  refine sm_iload (pc := 80) (n := 4) dX9_grows_80 ?_
  refine sm_if_le (pc := 82) (tgt := 112) dX9_grows_82 (by decide) ?_ ?_
  · skip
    exact sm_vreturn (pc := 112) dX9_grows_112 rfl
  · skip
    refine sm_aload_n (pc := 85) (n := 0) dX9_grows_85 rfl ?_
    refine gf_X9_35 (pc := 86) rfl dX9_grows_86 ?_
    refine sm_iload_n (pc := 89) (n := 1) dX9_grows_89 rfl ?_
    refine sm_iload (pc := 90) (n := 4) dX9_grows_90 ?_
    refine sm_iastore (pc := 92) dX9_grows_92 ?_
    refine sm_aload_n (pc := 93) (n := 0) dX9_grows_93 rfl ?_
    refine sm_iload_n (pc := 94) (n := 1) dX9_grows_94 rfl ?_
    refine sm_iconst (pc := 95) dX9_grows_95 zc_i_1 ?_
    refine sm_iadd (pc := 96) dX9_grows_96 ?_
    refine sm_iload_n (pc := 97) (n := 2) dX9_grows_97 rfl ?_
    refine sm_iload (pc := 98) (n := 4) dX9_grows_98 ?_
    refine sm_isub (pc := 100) dX9_grows_100 ?_
    refine sm_iload (pc := 101) (n := 4) dX9_grows_101 ?_
    refine sm_cV (pc := 103) (ci := 9) (n := 4) (mc := 0) (ms := 0) rfl hself (cr_X9_162 (X := X_X9_grows) (fr := 1 + (n + 1)) (frc := 1 + n) (pc := 103) (mc := 0) (ms := 0) rfl (by omega) dX9_grows_103) ?_
    refine sm_iinc (pc := 106) (n := 4) dX9_grows_106 zc_i_m1 ?_
    refine sm_goto (pc := 109) (tgt := 80) dX9_grows_109 (by decide) ?_
    exact hr80
noncomputable def bX9_grows_45 {d : Nat} (self : List zV → zH d → zP d → Bool) (P : zP d) (r7 : zK d) : zK d := (xast1 0 (fun v => v) (xinc 4 1 r7))
set_option maxRecDepth 100000 in
set_option maxHeartbeats 4000000 in
theorem sbX9_grows_45 {d : Nat} (n : Nat) (self : List zV → zH d → zP d → Bool) (hself : zMet X_X9_grows yX9_grows (1 + n) self) (P : zP d) (r7 : zK d) (hr7 : zSim X_X9_grows (1 + (n + 1)) P 7 r7) : zSim X_X9_grows (1 + (n + 1)) P 45 (bX9_grows_45 self P r7) := by
  unfold bX9_grows_45
  refine sm_iastore (pc := 45) dX9_grows_45 ?_
  refine sm_iinc (pc := 46) (n := 4) dX9_grows_46 zc_i_1 ?_
  refine sm_goto (pc := 49) (tgt := 7) dX9_grows_49 (by decide) ?_
  exact hr7
noncomputable def lX9_grows_7 {d : Nat} (self : List zV → zH d → zP d → Bool) (P : zP d) (r7 : zK d) : zK d := (xild 4 (xpI 6 (xcmp tge (xald 0 (xgfR 25 4 (xald 0 (xgfI 25 2 (xild 1 (xast1 0 (fun v => v) (xald 0 (xdup (xgfI 25 2 (xpI 1 (xbin zadd (xpfI 25 2 (xvret P))))))))))))) (xald 0 (xgfR 25 3 (xpI 6 (xald 0 (xgfI 25 2 (xbin zmul (xild 4 (xbin zadd (xild 4 (xild 1 (xjoin (bX9_grows_45 self P r7) (fun j45 => (xcmp tge (xpI 0 j45) (xald 0 (xgfR 25 13 (xild 4 (xald1 0 j45))))))))))))))))))))
set_option maxRecDepth 100000 in
set_option maxHeartbeats 4000000 in
theorem slX9_grows_7 {d : Nat} (n : Nat) (self : List zV → zH d → zP d → Bool) (hself : zMet X_X9_grows yX9_grows (1 + n) self) (P : zP d) (r7 : zK d) (hr7 : zSim X_X9_grows (1 + (n + 1)) P 7 r7) : zSim X_X9_grows (1 + (n + 1)) P 7 (lX9_grows_7 self P r7) := by
  unfold lX9_grows_7
  refine sm_iload (pc := 7) (n := 4) dX9_grows_7 ?_
  refine sm_bipush (pc := 9) dX9_grows_9 zc_b_6 ?_
  refine sm_icmp_ge (pc := 11) (tgt := 52) dX9_grows_11 (by decide) ?_ ?_
  · skip
    refine sm_aload_n (pc := 52) (n := 0) dX9_grows_52 rfl ?_
    refine gf_X9_13 (pc := 53) rfl dX9_grows_53 ?_
    refine sm_aload_n (pc := 56) (n := 0) dX9_grows_56 rfl ?_
    refine gf_X9_153 (pc := 57) rfl dX9_grows_57 ?_
    refine sm_iload_n (pc := 60) (n := 1) dX9_grows_60 rfl ?_
    refine sm_iastore (pc := 61) dX9_grows_61 ?_
    refine sm_aload_n (pc := 62) (n := 0) dX9_grows_62 rfl ?_
    refine sm_dup (pc := 63) dX9_grows_63 ?_
    refine gf_X9_153 (pc := 64) rfl dX9_grows_64 ?_
    refine sm_iconst (pc := 67) dX9_grows_67 zc_i_1 ?_
    refine sm_iadd (pc := 68) dX9_grows_68 ?_
    refine pf_X9_153 (pc := 69) rfl dX9_grows_69 ?_
    exact sm_vreturn (pc := 72) dX9_grows_72 rfl
  · skip
    refine sm_aload_n (pc := 14) (n := 0) dX9_grows_14 rfl ?_
    refine gf_X9_7 (pc := 15) rfl dX9_grows_15 ?_
    refine sm_bipush (pc := 18) dX9_grows_18 zc_b_6 ?_
    refine sm_aload_n (pc := 20) (n := 0) dX9_grows_20 rfl ?_
    refine gf_X9_153 (pc := 21) rfl dX9_grows_21 ?_
    refine sm_imul (pc := 24) dX9_grows_24 ?_
    refine sm_iload (pc := 25) (n := 4) dX9_grows_25 ?_
    refine sm_iadd (pc := 27) dX9_grows_27 ?_
    refine sm_iload (pc := 28) (n := 4) dX9_grows_28 ?_
    refine sm_iload_n (pc := 30) (n := 1) dX9_grows_30 rfl ?_
    refine sm_join (pc := 31) (pc' := 45) (sbX9_grows_45 n self hself P r7 hr7) (fun j45 hj45 => ?_)
    refine sm_icmp_ge (pc := 31) (tgt := 44) dX9_grows_31 (by decide) ?_ ?_
    · skip
      refine sm_iconst (pc := 44) dX9_grows_44 zc_i_0 ?_
      exact hj45
    · skip
      refine sm_aload_n (pc := 34) (n := 0) dX9_grows_34 rfl ?_
      refine gf_X9_35 (pc := 35) rfl dX9_grows_35 ?_
      refine sm_iload (pc := 38) (n := 4) dX9_grows_38 ?_
      refine sm_iaload (pc := 40) dX9_grows_40 ?_
      refine sm_goto (pc := 41) (tgt := 45) dX9_grows_41 (by decide) ?_
      exact hj45
noncomputable def b_X9_grows {d : Nat} (self : List zV → zH d → zP d → Bool) (P : zP d) : zK d := (xild 2 (xif0 t0eq (xpI 0 (xist 4 (xloop (fun r7 => (lX9_grows_7 self P r7)) 100000))) (xild 2 (xild 3 (xmm zmin (xist 4 (xloop (fun r80 => (lX9_grows_80 self P r80)) 100000)))))))
set_option maxRecDepth 100000 in
set_option maxHeartbeats 4000000 in
theorem s_X9_grows {d : Nat} (n : Nat) (self : List zV → zH d → zP d → Bool) (hself : zMet X_X9_grows yX9_grows (1 + n) self) (P : zP d) : zSim X_X9_grows (1 + (n + 1)) P 0 (b_X9_grows self P) := by
  unfold b_X9_grows
  refine sm_iload_n (pc := 0) (n := 2) dX9_grows_0 rfl ?_
  refine sm_if_ne (pc := 1) (tgt := 73) dX9_grows_1 (by decide) ?_ ?_
  · skip
    refine sm_iload_n (pc := 73) (n := 2) dX9_grows_73 rfl ?_
    refine sm_iload_n (pc := 74) (n := 3) dX9_grows_74 rfl ?_
    refine sm_mmin (pc := 75) wd_917 wd_76 wd_6 wd_77 (by omega) dX9_grows_75 ?_
    refine sm_istore (pc := 78) (n := 4) dX9_grows_78 ?_
    exact sm_loop (fun r80 hr80 => slX9_grows_80 n self hself P r80 hr80) _
  · skip
    refine sm_iconst (pc := 4) dX9_grows_4 zc_i_0 ?_
    refine sm_istore (pc := 5) (n := 4) dX9_grows_5 ?_
    exact sm_loop (fun r7 hr7 => slX9_grows_7 n self hself P r7 hr7) _
noncomputable def f_X9_grows {d : Nat} : List zV → zH d → zP d → Bool := zrec 5 b_X9_grows 8
theorem m_X9_grows {d : Nat} : zMet (d := d) X_X9_grows yX9_grows 9 f_X9_grows := zmet_rec (X := X_X9_grows) (fr := 1) (by decide) rfl rfl (fun n f hf P => s_X9_grows n f hf P) 8
