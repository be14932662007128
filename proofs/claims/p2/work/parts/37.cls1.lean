/-! the class, by program -/
abbrev X_J6_bitCount_0f7a4 : zM := (RJ6, cJ6_bitCount_0f7a4, 1, (some .int), "bitCount")
noncomputable def cJ6_bitCount_0f7a4_32 {d : Nat} (P : zP d) : zK d := (xbin zand (xist 0 (xild 0 (xild 0 (xpI 8 (xbin zushr (xbin zadd (xist 0 (xild 0 (xild 0 (xpI 16 (xbin zushr (xbin zadd (xist 0 (xild 0 (xpI 63 (xbin zand (xiret P))))))))))))))))))
set_option maxRecDepth 100000 in
set_option maxHeartbeats 4000000 in
theorem scJ6_bitCount_0f7a4_32 {d : Nat} [zGh] (P : zP d) : zSim X_J6_bitCount_0f7a4 1 P 32 (cJ6_bitCount_0f7a4_32 P) := by
  unfold cJ6_bitCount_0f7a4_32
  refine sm_iand (pc := 32) dJ6_bitCount_0f7a4_32 ?_
  refine sm_istore_n (pc := 33) (n := 0) dJ6_bitCount_0f7a4_33 rfl ?_
  refine sm_iload_n (pc := 34) (n := 0) dJ6_bitCount_0f7a4_34 rfl ?_
  refine sm_iload_n (pc := 35) (n := 0) dJ6_bitCount_0f7a4_35 rfl ?_
  refine sm_bipush (pc := 36) dJ6_bitCount_0f7a4_36 zc_b_8 ?_
  refine sm_iushr (pc := 38) dJ6_bitCount_0f7a4_38 ?_
  refine sm_iadd (pc := 39) dJ6_bitCount_0f7a4_39 ?_
  refine sm_istore_n (pc := 40) (n := 0) dJ6_bitCount_0f7a4_40 rfl ?_
  refine sm_iload_n (pc := 41) (n := 0) dJ6_bitCount_0f7a4_41 rfl ?_
  refine sm_iload_n (pc := 42) (n := 0) dJ6_bitCount_0f7a4_42 rfl ?_
  refine sm_bipush (pc := 43) dJ6_bitCount_0f7a4_43 zc_b_16 ?_
  refine sm_iushr (pc := 45) dJ6_bitCount_0f7a4_45 ?_
  refine sm_iadd (pc := 46) dJ6_bitCount_0f7a4_46 ?_
  refine sm_istore_n (pc := 47) (n := 0) dJ6_bitCount_0f7a4_47 rfl ?_
  refine sm_iload_n (pc := 48) (n := 0) dJ6_bitCount_0f7a4_48 rfl ?_
  refine sm_bipush (pc := 49) dJ6_bitCount_0f7a4_49 zc_b_63 ?_
  refine sm_iand (pc := 51) dJ6_bitCount_0f7a4_51 ?_
  exact sm_ireturn (pc := 52) dJ6_bitCount_0f7a4_52 rfl
noncomputable def b_J6_bitCount_0f7a4 {d : Nat} (P : zP d) : zK d := (xild 0 (xild 0 (xpI 1 (xbin zushr (xpI 1431655765 (xbin zand (xbin zsub (xist 0 (xild 0 (xpI 858993459 (xbin zand (xild 0 (xpI 2 (xbin zushr (xpI 858993459 (xbin zand (xbin zadd (xist 0 (xild 0 (xild 0 (xpI 4 (xbin zushr (xbin zadd (xpI 252645135 (cJ6_bitCount_0f7a4_32 P)))))))))))))))))))))))))
set_option maxRecDepth 100000 in
set_option maxHeartbeats 4000000 in
theorem s_J6_bitCount_0f7a4 {d : Nat} [zGh] (P : zP d) : zSim X_J6_bitCount_0f7a4 1 P 0 (b_J6_bitCount_0f7a4 P) := by
  unfold b_J6_bitCount_0f7a4
  refine sm_iload_n (pc := 0) (n := 0) dJ6_bitCount_0f7a4_0 rfl ?_
  refine sm_iload_n (pc := 1) (n := 0) dJ6_bitCount_0f7a4_1 rfl ?_
  refine sm_iconst (pc := 2) dJ6_bitCount_0f7a4_2 zc_i_1 ?_
  refine sm_iushr (pc := 3) dJ6_bitCount_0f7a4_3 ?_
  refine sm_ldcw (pc := 4) dJ6_bitCount_0f7a4_4 wd_120 zc_c_1431655765 ?_
  refine sm_iand (pc := 7) dJ6_bitCount_0f7a4_7 ?_
  refine sm_isub (pc := 8) dJ6_bitCount_0f7a4_8 ?_
  refine sm_istore_n (pc := 9) (n := 0) dJ6_bitCount_0f7a4_9 rfl ?_
  refine sm_iload_n (pc := 10) (n := 0) dJ6_bitCount_0f7a4_10 rfl ?_
  refine sm_ldcw (pc := 11) dJ6_bitCount_0f7a4_11 wd_121 zc_c_858993459 ?_
  refine sm_iand (pc := 14) dJ6_bitCount_0f7a4_14 ?_
  refine sm_iload_n (pc := 15) (n := 0) dJ6_bitCount_0f7a4_15 rfl ?_
  refine sm_iconst (pc := 16) dJ6_bitCount_0f7a4_16 zc_i_2 ?_
  refine sm_iushr (pc := 17) dJ6_bitCount_0f7a4_17 ?_
  refine sm_ldcw (pc := 18) dJ6_bitCount_0f7a4_18 wd_121 zc_c_858993459 ?_
  refine sm_iand (pc := 21) dJ6_bitCount_0f7a4_21 ?_
  refine sm_iadd (pc := 22) dJ6_bitCount_0f7a4_22 ?_
  refine sm_istore_n (pc := 23) (n := 0) dJ6_bitCount_0f7a4_23 rfl ?_
  refine sm_iload_n (pc := 24) (n := 0) dJ6_bitCount_0f7a4_24 rfl ?_
  refine sm_iload_n (pc := 25) (n := 0) dJ6_bitCount_0f7a4_25 rfl ?_
  refine sm_iconst (pc := 26) dJ6_bitCount_0f7a4_26 zc_i_4 ?_
  refine sm_iushr (pc := 27) dJ6_bitCount_0f7a4_27 ?_
  refine sm_iadd (pc := 28) dJ6_bitCount_0f7a4_28 ?_
  refine sm_ldcw (pc := 29) dJ6_bitCount_0f7a4_29 wd_122 zc_c_252645135 ?_
  exact scJ6_bitCount_0f7a4_32 P
noncomputable def f_J6_bitCount_0f7a4 {d : Nat} : List zV → zH d → zP d → Bool := zfn 1 b_J6_bitCount_0f7a4
theorem m_J6_bitCount_0f7a4 {d : Nat} : zMet (d := d) X_J6_bitCount_0f7a4 yJ6_bitCount_0f7a4 1 f_J6_bitCount_0f7a4 := zmet_mk (X := X_J6_bitCount_0f7a4) (by decide) rfl rfl s_J6_bitCount_0f7a4

abbrev X_J7_fill_d0a16 : zM := (RJ7, cJ7_fill_d0a16, 5, none, "fill")
noncomputable def lJ7_fill_d0a16_6 {d : Nat} (P : zP d) (r6 : zK d) : zK d := (xild 3 (xild 4 (xcmp tge (xvret P) (xald 0 (xild 3 (xlld 1 (xlas (xinc 3 1 r6))))))))
set_option maxRecDepth 100000 in
set_option maxHeartbeats 4000000 in
theorem slJ7_fill_d0a16_6 {d : Nat} [zGh] (P : zP d) (r6 : zK d) (hr6 : zSim X_J7_fill_d0a16 1 P 6 r6) : zSim X_J7_fill_d0a16 1 P 6 (lJ7_fill_d0a16_6 P r6) := by
  unfold lJ7_fill_d0a16_6
  refine sm_iload_n (pc := 6) (n := 3) dJ7_fill_d0a16_6 rfl ?_
  refine sm_iload (pc := 7) (n := 4) dJ7_fill_d0a16_7 ?_
  refine sm_icmp_ge (pc := 9) (tgt := 22) dJ7_fill_d0a16_9 (by decide) ?_ ?_
  · skip
    exact sm_vreturn (pc := 22) dJ7_fill_d0a16_22 rfl
  · skip
    refine sm_aload_n (pc := 12) (n := 0) dJ7_fill_d0a16_12 rfl ?_
    refine sm_iload_n (pc := 13) (n := 3) dJ7_fill_d0a16_13 rfl ?_
    refine sm_lload_n (pc := 14) (n := 1) dJ7_fill_d0a16_14 rfl ?_
    refine sm_lastore (pc := 15) dJ7_fill_d0a16_15 ?_
    refine sm_iinc (pc := 16) (n := 3) dJ7_fill_d0a16_16 zc_i_1 ?_
    refine sm_goto (pc := 19) (tgt := 6) dJ7_fill_d0a16_19 (by decide) ?_
    exact hr6
noncomputable def b_J7_fill_d0a16 {d : Nat} (P : zP d) : zK d := (xpI 0 (xist 3 (xald 0 (xlen (xist 4 (xloop (fun r6 => (lJ7_fill_d0a16_6 P r6)) 100000))))))
set_option maxRecDepth 100000 in
set_option maxHeartbeats 4000000 in
theorem s_J7_fill_d0a16 {d : Nat} [zGh] (P : zP d) : zSim X_J7_fill_d0a16 1 P 0 (b_J7_fill_d0a16 P) := by
  unfold b_J7_fill_d0a16
  refine sm_iconst (pc := 0) dJ7_fill_d0a16_0 zc_i_0 ?_
  refine sm_istore_n (pc := 1) (n := 3) dJ7_fill_d0a16_1 rfl ?_
  refine sm_aload_n (pc := 2) (n := 0) dJ7_fill_d0a16_2 rfl ?_
  refine sm_arraylength (pc := 3) dJ7_fill_d0a16_3 ?_
  refine sm_istore (pc := 4) (n := 4) dJ7_fill_d0a16_4 ?_
  exact sm_loop (fun r6 hr6 => slJ7_fill_d0a16_6 P r6 hr6) _
noncomputable def f_J7_fill_d0a16 {d : Nat} : List zV → zH d → zP d → Bool := zfn 5 b_J7_fill_d0a16
theorem m_J7_fill_d0a16 {d : Nat} : zMet (d := d) X_J7_fill_d0a16 yJ7_fill_d0a16 1 f_J7_fill_d0a16 := zmet_mk (X := X_J7_fill_d0a16) (by decide) rfl rfl s_J7_fill_d0a16

abbrev X_J7_fill_53178 : zM := (RJ7, cJ7_fill_53178, 4, none, "fill")
noncomputable def lJ7_fill_53178_5 {d : Nat} (P : zP d) (r5 : zK d) : zK d := (xild 2 (xild 3 (xcmp tge (xvret P) (xald 0 (xild 2 (xild 1 (xast1 0 (fun v => v) (xinc 2 1 r5))))))))
set_option maxRecDepth 100000 in
set_option maxHeartbeats 4000000 in
theorem slJ7_fill_53178_5 {d : Nat} [zGh] (P : zP d) (r5 : zK d) (hr5 : zSim X_J7_fill_53178 1 P 5 r5) : zSim X_J7_fill_53178 1 P 5 (lJ7_fill_53178_5 P r5) := by
  unfold lJ7_fill_53178_5
  refine sm_iload_n (pc := 5) (n := 2) dJ7_fill_53178_5 rfl ?_
  refine sm_iload_n (pc := 6) (n := 3) dJ7_fill_53178_6 rfl ?_
  refine sm_icmp_ge (pc := 7) (tgt := 20) dJ7_fill_53178_7 (by decide) ?_ ?_
  · skip
    exact sm_vreturn (pc := 20) dJ7_fill_53178_20 rfl
  · skip
    refine sm_aload_n (pc := 10) (n := 0) dJ7_fill_53178_10 rfl ?_
    refine sm_iload_n (pc := 11) (n := 2) dJ7_fill_53178_11 rfl ?_
    refine sm_iload_n (pc := 12) (n := 1) dJ7_fill_53178_12 rfl ?_
    refine sm_iastore (pc := 13) dJ7_fill_53178_13 ?_
    refine sm_iinc (pc := 14) (n := 2) dJ7_fill_53178_14 zc_i_1 ?_
    refine sm_goto (pc := 17) (tgt := 5) dJ7_fill_53178_17 (by decide) ?_
    exact hr5
noncomputable def b_J7_fill_53178 {d : Nat} (P : zP d) : zK d := (xpI 0 (xist 2 (xald 0 (xlen (xist 3 (xloop (fun r5 => (lJ7_fill_53178_5 P r5)) 100000))))))
set_option maxRecDepth 100000 in
set_option maxHeartbeats 4000000 in
theorem s_J7_fill_53178 {d : Nat} [zGh] (P : zP d) : zSim X_J7_fill_53178 1 P 0 (b_J7_fill_53178 P) := by
  unfold b_J7_fill_53178
  refine sm_iconst (pc := 0) dJ7_fill_53178_0 zc_i_0 ?_
  refine sm_istore_n (pc := 1) (n := 2) dJ7_fill_53178_1 rfl ?_
  refine sm_aload_n (pc := 2) (n := 0) dJ7_fill_53178_2 rfl ?_
  refine sm_arraylength (pc := 3) dJ7_fill_53178_3 ?_
  refine sm_istore_n (pc := 4) (n := 3) dJ7_fill_53178_4 rfl ?_
  exact sm_loop (fun r5 hr5 => slJ7_fill_53178_5 P r5 hr5) _
noncomputable def f_J7_fill_53178 {d : Nat} : List zV → zH d → zP d → Bool := zfn 4 b_J7_fill_53178
theorem m_J7_fill_53178 {d : Nat} : zMet (d := d) X_J7_fill_53178 yJ7_fill_53178 1 f_J7_fill_53178 := zmet_mk (X := X_J7_fill_53178) (by decide) rfl rfl s_J7_fill_53178

abbrev X_J7_copyOf_59c91 : zM := (RJ7, cJ7_copyOf_59c91, 3, (some (.array .int)), "copyOf")
noncomputable def b_J7_copyOf_59c91 {d : Nat} (P : zP d) : zK d := (xild 1 (xald 0 (xlen (xcmp Nat.beq (xald 0 (xcln (xcast (xaret P)))) (xild 1 (xnwa 0 (xast 2 (xald 0 (xpI 0 (xald 2 (xpI 0 (xald 0 (xlen (xild 1 (xmm zmin (xcpy 0 40 (xald 2 (xaret P))))))))))))))))))
set_option maxRecDepth 100000 in
set_option maxHeartbeats 4000000 in
theorem s_J7_copyOf_59c91 {d : Nat} [zGh] (P : zP d) : zSim X_J7_copyOf_59c91 1 P 0 (b_J7_copyOf_59c91 P) := by
  unfold b_J7_copyOf_59c91
  refine sm_iload_n (pc := 0) (n := 1) dJ7_copyOf_59c91_0 rfl ?_
  refine sm_aload_n (pc := 1) (n := 0) dJ7_copyOf_59c91_1 rfl ?_
  refine sm_arraylength (pc := 2) dJ7_copyOf_59c91_2 ?_
  refine sm_icmp_ne (pc := 3) (tgt := 14) dJ7_copyOf_59c91_3 (by decide) ?_ ?_
  · skip
    refine sm_iload_n (pc := 14) (n := 1) dJ7_copyOf_59c91_14 rfl ?_
    refine sm_newI (pc := 15) dJ7_copyOf_59c91_15 wd_46 ?_
    refine sm_astore_n (pc := 17) (n := 2) dJ7_copyOf_59c91_17 rfl ?_
    refine sm_aload_n (pc := 18) (n := 0) dJ7_copyOf_59c91_18 rfl ?_
    refine sm_iconst (pc := 19) dJ7_copyOf_59c91_19 zc_i_0 ?_
    refine sm_aload_n (pc := 20) (n := 2) dJ7_copyOf_59c91_20 rfl ?_
    refine sm_iconst (pc := 21) dJ7_copyOf_59c91_21 zc_i_0 ?_
    refine sm_aload_n (pc := 22) (n := 0) dJ7_copyOf_59c91_22 rfl ?_
    refine sm_arraylength (pc := 23) dJ7_copyOf_59c91_23 ?_
    refine sm_iload_n (pc := 24) (n := 1) dJ7_copyOf_59c91_24 rfl ?_
    refine sm_mmin (pc := 25) wd_75 wd_76 wd_6 wd_77 (by decide) dJ7_copyOf_59c91_25 ?_
    refine sm_copyI (pc := 28) wd_78 wd_80 wd_79 wd_7 (by decide) dJ7_copyOf_59c91_28 ?_
    refine sm_aload_n (pc := 31) (n := 2) dJ7_copyOf_59c91_31 rfl ?_
    exact sm_areturn (pc := 32) dJ7_copyOf_59c91_32 rfl (by first | exact Or.inl ⟨_, rfl⟩ | exact Or.inr ⟨_, rfl⟩)
  · skip
    refine sm_aload_n (pc := 6) (n := 0) dJ7_copyOf_59c91_6 rfl ?_
    refine sm_clone (pc := 7) wd_68 wd_69 wd_70 wd_71 wd_72 (by decide) dJ7_copyOf_59c91_7 ?_
    refine sm_castI (pc := 10) wd_74 dJ7_copyOf_59c91_10 ?_
    exact sm_areturn (pc := 13) dJ7_copyOf_59c91_13 rfl (by first | exact Or.inl ⟨_, rfl⟩ | exact Or.inr ⟨_, rfl⟩)
noncomputable def f_J7_copyOf_59c91 {d : Nat} : List zV → zH d → zP d → Bool := zfn 3 b_J7_copyOf_59c91
theorem m_J7_copyOf_59c91 {d : Nat} : zMet (d := d) X_J7_copyOf_59c91 yJ7_copyOf_59c91 1 f_J7_copyOf_59c91 := zmet_mk (X := X_J7_copyOf_59c91) (by decide) rfl rfl s_J7_copyOf_59c91

abbrev X_X6_init : zM := (RX6, cX6_init, 1, none, "<init>")
noncomputable def b_X6_init {d : Nat} (P : zP d) : zK d := (xald 0 (xobj (xald 0 (xpI 200 (xnwa 0 (xpfR 22 0 (xvret P)))))))
set_option maxRecDepth 100000 in
set_option maxHeartbeats 4000000 in
theorem s_X6_init {d : Nat} [zGh] (P : zP d) : zSim X_X6_init 1 P 0 (b_X6_init P) := by
  unfold b_X6_init
  refine sm_aload_n (pc := 0) (n := 0) dX6_init_0 rfl ?_
  refine sm_objinit (pc := 1) wd_34 wd_21 wd_22 (by decide) dX6_init_1 ?_
  refine sm_aload_n (pc := 4) (n := 0) dX6_init_4 rfl ?_
  refine sm_sipush (pc := 5) dX6_init_5 zc_s_200 ?_
  refine sm_newI (pc := 8) dX6_init_8 wd_46 ?_
  refine pf_X6_9 (pc := 10) rfl rfl dX6_init_10 ?_
  exact sm_vreturn (pc := 13) dX6_init_13 rfl
noncomputable def f_X6_init {d : Nat} : List zV → zH d → zP d → Bool := zfn 1 b_X6_init
theorem m_X6_init {d : Nat} : zMet (d := d) X_X6_init yX6_init 1 f_X6_init := zmet_mk (X := X_X6_init) (by decide) rfl rfl s_X6_init

abbrev X_X6_hasRoom : zM := (RX6, cX6_hasRoom, 2, (some .boolean), "hasRoom")
noncomputable def bX6_hasRoom_17 {d : Nat} (P : zP d) : zK d := (xzret P)
set_option maxRecDepth 100000 in
set_option maxHeartbeats 4000000 in
theorem sbX6_hasRoom_17 {d : Nat} [zGh] (P : zP d) : zSim X_X6_hasRoom 1 P 17 (bX6_hasRoom_17 P) := by
  unfold bX6_hasRoom_17
  exact sm_zreturn (pc := 17) dX6_hasRoom_17 rfl
noncomputable def b_X6_hasRoom {d : Nat} (P : zP d) : zK d := (xald 0 (xgfI 22 1 (xild 1 (xbin zadd (xpI 200 (xjoin (bX6_hasRoom_17 P) (fun j17 => (xcmp tle (xpI 1 j17) (xpI 0 j17)))))))))
set_option maxRecDepth 100000 in
set_option maxHeartbeats 4000000 in
theorem s_X6_hasRoom {d : Nat} [zGh] (P : zP d) : zSim X_X6_hasRoom 1 P 0 (b_X6_hasRoom P) := by
  unfold b_X6_hasRoom
  refine sm_aload_n (pc := 0) (n := 0) dX6_hasRoom_0 rfl ?_
  refine gf_X6_13 (pc := 1) rfl dX6_hasRoom_1 ?_
  refine sm_iload_n (pc := 4) (n := 1) dX6_hasRoom_4 rfl ?_
  refine sm_iadd (pc := 5) dX6_hasRoom_5 ?_
  refine sm_sipush (pc := 6) dX6_hasRoom_6 zc_s_200 ?_
  refine sm_join (pc := 9) (pc' := 17) (sbX6_hasRoom_17 P) (fun j17 hj17 => ?_)
  refine sm_icmp_gt (pc := 9) (tgt := 16) dX6_hasRoom_9 (by decide) ?_ ?_
  · skip
    refine sm_iconst (pc := 16) dX6_hasRoom_16 zc_i_0 ?_
    exact hj17
  · skip
    refine sm_iconst (pc := 12) dX6_hasRoom_12 zc_i_1 ?_
    refine sm_goto (pc := 13) (tgt := 17) dX6_hasRoom_13 (by decide) ?_
    exact hj17
noncomputable def f_X6_hasRoom {d : Nat} : List zV → zH d → zP d → Bool := zfn 2 b_X6_hasRoom
theorem m_X6_hasRoom {d : Nat} : zMet (d := d) X_X6_hasRoom yX6_hasRoom 1 f_X6_hasRoom := zmet_mk (X := X_X6_hasRoom) (by decide) rfl rfl s_X6_hasRoom

abbrev X_X6_put : zM := (RX6, cX6_put, 3, none, "put")
noncomputable def bX6_put_49 {d : Nat} (P : zP d) : zK d := (xvret P)
set_option maxRecDepth 100000 in
set_option maxHeartbeats 4000000 in
theorem sbX6_put_49 {d : Nat} [zGh] (P : zP d) : zSim X_X6_put 1 P 49 (bX6_put_49 P) := by
  unfold bX6_put_49
  exact sm_vreturn (pc := 49) dX6_put_49 rfl
noncomputable def lX6_put_3 {d : Nat} (P : zP d) (r3 : zK d) : zK d := (xild 2 (xjoin (bX6_put_49 P) (fun j49 => (xif0 t0ge (xald 0 (xgfI 22 1 (xpI 200 (xcmp tge j49 (xald 0 (xgfR 22 0 (xald 0 (xgfI 22 1 (xild 1 (xild 2 (xbin zshr (xpI 255 (xbin zand (xast1 0 (fun v => v) (xald 0 (xdup (xgfI 22 1 (xpI 1 (xbin zadd (xpfI 22 1 (xinc 2 4294967288 r3))))))))))))))))))))) j49))))
set_option maxRecDepth 100000 in
set_option maxHeartbeats 4000000 in
theorem slX6_put_3 {d : Nat} [zGh] (P : zP d) (r3 : zK d) (hr3 : zSim X_X6_put 1 P 3 r3) : zSim X_X6_put 1 P 3 (lX6_put_3 P r3) := by
  unfold lX6_put_3
  refine sm_iload_n (pc := 3) (n := 2) dX6_put_3 rfl ?_
  refine sm_join (pc := 4) (pc' := 49) (sbX6_put_49 P) (fun j49 hj49 => ?_)
  refine sm_if_lt (pc := 4) (tgt := 49) dX6_put_4 (by decide) ?_ ?_
  · skip
    exact hj49
  · skip
    refine sm_aload_n (pc := 7) (n := 0) dX6_put_7 rfl ?_
    refine gf_X6_13 (pc := 8) rfl dX6_put_8 ?_
    refine sm_sipush (pc := 11) dX6_put_11 zc_s_200 ?_
    refine sm_icmp_ge (pc := 14) (tgt := 49) dX6_put_14 (by decide) ?_ ?_
    · skip
      exact hj49
    · skip
      refine sm_aload_n (pc := 17) (n := 0) dX6_put_17 rfl ?_
      refine gf_X6_9 (pc := 18) rfl dX6_put_18 ?_
      refine sm_aload_n (pc := 21) (n := 0) dX6_put_21 rfl ?_
      refine gf_X6_13 (pc := 22) rfl dX6_put_22 ?_
      refine sm_iload_n (pc := 25) (n := 1) dX6_put_25 rfl ?_
      refine sm_iload_n (pc := 26) (n := 2) dX6_put_26 rfl ?_
      refine sm_ishr (pc := 27) dX6_put_27 ?_
      refine sm_sipush (pc := 28) dX6_put_28 zc_s_255 ?_
      refine sm_iand (pc := 31) dX6_put_31 ?_
      refine sm_iastore (pc := 32) dX6_put_32 ?_
      refine sm_aload_n (pc := 33) (n := 0) dX6_put_33 rfl ?_
      refine sm_dup (pc := 34) dX6_put_34 ?_
      refine gf_X6_13 (pc := 35) rfl dX6_put_35 ?_
      refine sm_iconst (pc := 38) dX6_put_38 zc_i_1 ?_
      refine sm_iadd (pc := 39) dX6_put_39 ?_
      refine pf_X6_13 (pc := 40) rfl dX6_put_40 ?_
      refine sm_iinc (pc := 43) (n := 2) dX6_put_43 zc_i_m8 ?_
      refine sm_goto (pc := 46) (tgt := 3) dX6_put_46 (by decide) ?_
      exact hr3
noncomputable def b_X6_put {d : Nat} (P : zP d) : zK d := (xpI 24 (xist 2 (xloop (fun r3 => (lX6_put_3 P r3)) 100000)))
set_option maxRecDepth 100000 in
set_option maxHeartbeats 4000000 in
theorem s_X6_put {d : Nat} [zGh] (P : zP d) : zSim X_X6_put 1 P 0 (b_X6_put P) := by
  unfold b_X6_put
  refine sm_bipush (pc := 0) dX6_put_0 zc_b_24 ?_
  refine sm_istore_n (pc := 2) (n := 2) dX6_put_2 rfl ?_
  exact sm_loop (fun r3 hr3 => slX6_put_3 P r3 hr3) _
noncomputable def f_X6_put {d : Nat} : List zV → zH d → zP d → Bool := zfn 3 b_X6_put
theorem m_X6_put {d : Nat} : zMet (d := d) X_X6_put yX6_put 1 f_X6_put := zmet_mk (X := X_X6_put) (by decide) rfl rfl s_X6_put

abbrev X_X1_init : zM := (RX1, cX1_init, 1, none, "<init>")
noncomputable def b_X1_init {d : Nat} (P : zP d) : zK d := (xald 0 (xobj (xald 0 (xpI 4294967295 (xpfI 17 1 (xald 0 (xpI 15 (xnwa 0 (xpfR 17 2 (xvret P))))))))))
set_option maxRecDepth 100000 in
set_option maxHeartbeats 4000000 in
theorem s_X1_init {d : Nat} [zGh] (P : zP d) : zSim X_X1_init 1 P 0 (b_X1_init P) := by
  unfold b_X1_init
  refine sm_aload_n (pc := 0) (n := 0) dX1_init_0 rfl ?_
  refine sm_objinit (pc := 1) wd_551 wd_21 wd_22 (by decide) dX1_init_1 ?_
  refine sm_aload_n (pc := 4) (n := 0) dX1_init_4 rfl ?_
  refine sm_iconst (pc := 5) dX1_init_5 zc_i_m1 ?_
  refine pf_X1_9 (pc := 6) rfl dX1_init_6 ?_
  refine sm_aload_n (pc := 9) (n := 0) dX1_init_9 rfl ?_
  refine sm_bipush (pc := 10) dX1_init_10 zc_b_15 ?_
  refine sm_newI (pc := 12) dX1_init_12 wd_46 ?_
  refine pf_X1_17 (pc := 14) rfl rfl dX1_init_14 ?_
  exact sm_vreturn (pc := 17) dX1_init_17 rfl
noncomputable def f_X1_init {d : Nat} : List zV → zH d → zP d → Bool := zfn 1 b_X1_init
theorem m_X1_init {d : Nat} : zMet (d := d) X_X1_init yX1_init 1 f_X1_init := zmet_mk (X := X_X1_init) (by decide) rfl rfl s_X1_init

abbrev X_X1_clear : zM := (RX1, cX1_clear, 1, none, "clear")
noncomputable def b_X1_clear {d : Nat} (P : zP d) : zK d := (xald 0 (xpI 0 (xpfI 17 0 (xald 0 (xpI 4294967295 (xpfI 17 1 (xald 0 (xpI 0 (xpfI 17 3 (xvret P))))))))))
set_option maxRecDepth 100000 in
set_option maxHeartbeats 4000000 in
theorem s_X1_clear {d : Nat} [zGh] (P : zP d) : zSim X_X1_clear 1 P 0 (b_X1_clear P) := by
  unfold b_X1_clear
  refine sm_aload_n (pc := 0) (n := 0) dX1_clear_0 rfl ?_
  refine sm_iconst (pc := 1) dX1_clear_1 zc_i_0 ?_
  refine pf_X1_21 (pc := 2) rfl dX1_clear_2 ?_
  refine sm_aload_n (pc := 5) (n := 0) dX1_clear_5 rfl ?_
  refine sm_iconst (pc := 6) dX1_clear_6 zc_i_m1 ?_
  refine pf_X1_9 (pc := 7) rfl dX1_clear_7 ?_
  refine sm_aload_n (pc := 10) (n := 0) dX1_clear_10 rfl ?_
  refine sm_iconst (pc := 11) dX1_clear_11 zc_i_0 ?_
  refine pf_X1_24 (pc := 12) rfl dX1_clear_12 ?_
  exact sm_vreturn (pc := 15) dX1_clear_15 rfl
noncomputable def f_X1_clear {d : Nat} : List zV → zH d → zP d → Bool := zfn 1 b_X1_clear
theorem m_X1_clear {d : Nat} : zMet (d := d) X_X1_clear yX1_clear 1 f_X1_clear := zmet_mk (X := X_X1_clear) (by decide) rfl rfl s_X1_clear

abbrev X_X1_tell : zM := (RX1, cX1_tell, 3, none, "tell")
noncomputable def b_X1_tell {d : Nat} (P : zP d) : zK d := (xald 0 (xild 1 (xpfI 17 0 (xald 0 (xild 2 (xpfI 17 1 (xald 0 (xpI 0 (xpfI 17 3 (xvret P))))))))))
set_option maxRecDepth 100000 in
set_option maxHeartbeats 4000000 in
theorem s_X1_tell {d : Nat} [zGh] (P : zP d) : zSim X_X1_tell 1 P 0 (b_X1_tell P) := by
  unfold b_X1_tell
  refine sm_aload_n (pc := 0) (n := 0) dX1_tell_0 rfl ?_
  refine sm_iload_n (pc := 1) (n := 1) dX1_tell_1 rfl ?_
  refine pf_X1_21 (pc := 2) rfl dX1_tell_2 ?_
  refine sm_aload_n (pc := 5) (n := 0) dX1_tell_5 rfl ?_
  refine sm_iload_n (pc := 6) (n := 2) dX1_tell_6 rfl ?_
  refine pf_X1_9 (pc := 7) rfl dX1_tell_7 ?_
  refine sm_aload_n (pc := 10) (n := 0) dX1_tell_10 rfl ?_
  refine sm_iconst (pc := 11) dX1_tell_11 zc_i_0 ?_
  refine pf_X1_24 (pc := 12) rfl dX1_tell_12 ?_
  exact sm_vreturn (pc := 15) dX1_tell_15 rfl
noncomputable def f_X1_tell {d : Nat} : List zV → zH d → zP d → Bool := zfn 3 b_X1_tell
theorem m_X1_tell {d : Nat} : zMet (d := d) X_X1_tell yX1_tell 1 f_X1_tell := zmet_mk (X := X_X1_tell) (by decide) rfl rfl s_X1_tell

abbrev X_X1_addWithin : zM := (RX1, cX1_addWithin, 2, none, "addWithin")
noncomputable def bX1_addWithin_32 {d : Nat} (P : zP d) : zK d := (xvret P)
set_option maxRecDepth 100000 in
set_option maxHeartbeats 4000000 in
theorem sbX1_addWithin_32 {d : Nat} [zGh] (P : zP d) : zSim X_X1_addWithin 1 P 32 (bX1_addWithin_32 P) := by
  unfold bX1_addWithin_32
  exact sm_vreturn (pc := 32) dX1_addWithin_32 rfl
noncomputable def b_X1_addWithin {d : Nat} (P : zP d) : zK d := (xald 0 (xgfI 17 3 (xald 0 (xgfR 17 2 (xlen (xjoin (bX1_addWithin_32 P) (fun j32 => (xcmp tge j32 (xald 0 (xgfR 17 2 (xald 0 (xgfI 17 3 (xild 1 (xast1 0 (fun v => v) (xald 0 (xdup (xgfI 17 3 (xpI 1 (xbin zadd (xpfI 17 3 j32))))))))))))))))))))
set_option maxRecDepth 100000 in
set_option maxHeartbeats 4000000 in
theorem s_X1_addWithin {d : Nat} [zGh] (P : zP d) : zSim X_X1_addWithin 1 P 0 (b_X1_addWithin P) := by
  unfold b_X1_addWithin
  refine sm_aload_n (pc := 0) (n := 0) dX1_addWithin_0 rfl ?_
  refine gf_X1_24 (pc := 1) rfl dX1_addWithin_1 ?_
  refine sm_aload_n (pc := 4) (n := 0) dX1_addWithin_4 rfl ?_
  refine gf_X1_17 (pc := 5) rfl dX1_addWithin_5 ?_
  refine sm_arraylength (pc := 8) dX1_addWithin_8 ?_
  refine sm_join (pc := 9) (pc' := 32) (sbX1_addWithin_32 P) (fun j32 hj32 => ?_)
  refine sm_icmp_ge (pc := 9) (tgt := 32) dX1_addWithin_9 (by decide) ?_ ?_
  · skip
    exact hj32
  · skip
    refine sm_aload_n (pc := 12) (n := 0) dX1_addWithin_12 rfl ?_
    refine gf_X1_17 (pc := 13) rfl dX1_addWithin_13 ?_
    refine sm_aload_n (pc := 16) (n := 0) dX1_addWithin_16 rfl ?_
    refine gf_X1_24 (pc := 17) rfl dX1_addWithin_17 ?_
    refine sm_iload_n (pc := 20) (n := 1) dX1_addWithin_20 rfl ?_
    refine sm_iastore (pc := 21) dX1_addWithin_21 ?_
    refine sm_aload_n (pc := 22) (n := 0) dX1_addWithin_22 rfl ?_
    refine sm_dup (pc := 23) dX1_addWithin_23 ?_
    refine gf_X1_24 (pc := 24) rfl dX1_addWithin_24 ?_
    refine sm_iconst (pc := 27) dX1_addWithin_27 zc_i_1 ?_
    refine sm_iadd (pc := 28) dX1_addWithin_28 ?_
    refine pf_X1_24 (pc := 29) rfl dX1_addWithin_29 ?_
    exact hj32
noncomputable def f_X1_addWithin {d : Nat} : List zV → zH d → zP d → Bool := zfn 2 b_X1_addWithin
theorem m_X1_addWithin {d : Nat} : zMet (d := d) X_X1_addWithin yX1_addWithin 1 f_X1_addWithin := zmet_mk (X := X_X1_addWithin) (by decide) rfl rfl s_X1_addWithin

abbrev X_X3_init : zM := (RX3, cX3_init, 4, none, "<init>")
noncomputable def b_X3_init {d : Nat} (P : zP d) : zK d := (xald 0 (xobj (xald 0 (xild 1 (xpfI 19 0 (xald 0 (xild 2 (xild 3 (xmnaD 3 0 (xpfR 19 1 (xvret P)))))))))))
set_option maxRecDepth 100000 in
set_option maxHeartbeats 4000000 in
theorem s_X3_init {d : Nat} [zGh] (P : zP d) : zSim X_X3_init 1 P 0 (b_X3_init P) := by
  unfold b_X3_init
  refine sm_aload_n (pc := 0) (n := 0) dX3_init_0 rfl ?_
  refine sm_objinit (pc := 1) wd_350 wd_21 wd_22 (by decide) dX3_init_1 ?_
  refine sm_aload_n (pc := 4) (n := 0) dX3_init_4 rfl ?_
  refine sm_iload_n (pc := 5) (n := 1) dX3_init_5 rfl ?_
  refine pf_X3_7 (pc := 6) rfl rfl dX3_init_6 ?_
  refine sm_aload_n (pc := 9) (n := 0) dX3_init_9 rfl ?_
  refine sm_iload_n (pc := 10) (n := 2) dX3_init_10 rfl ?_
  refine sm_iload_n (pc := 11) (n := 3) dX3_init_11 rfl ?_
  refine sm_mnaDI (pc := 12) wd_351 wd_46 dX3_init_12 ?_
  refine pf_X3_15 (pc := 16) rfl rfl dX3_init_16 ?_
  exact sm_vreturn (pc := 19) dX3_init_19 rfl
noncomputable def f_X3_init {d : Nat} : List zV → zH d → zP d → Bool := zfn 4 b_X3_init
theorem m_X3_init {d : Nat} : zMet (d := d) X_X3_init yX3_init 1 f_X3_init := zmet_mk (X := X_X3_init) (by decide) rfl rfl s_X3_init

abbrev X_X3_set : zM := (RX3, cX3_set, 4, none, "set")
noncomputable def b_X3_set {d : Nat} (P : zP d) : zK d := (xald 0 (xgfR 19 1 (xild 1 (xaal (xild 2 (xild 3 (xald 0 (xgfI 19 0 (xfm (xast1 0 (fun v => v) (xvret P)))))))))))
set_option maxRecDepth 100000 in
set_option maxHeartbeats 4000000 in
theorem s_X3_set {d : Nat} [zGh] (P : zP d) : zSim X_X3_set 1 P 0 (b_X3_set P) := by
  unfold b_X3_set
  refine sm_aload_n (pc := 0) (n := 0) dX3_set_0 rfl ?_
  refine gf_X3_15 (pc := 1) rfl dX3_set_1 ?_
  refine sm_iload_n (pc := 4) (n := 1) dX3_set_4 rfl ?_
  refine sm_aaload (pc := 5) dX3_set_5 ?_
  refine sm_iload_n (pc := 6) (n := 2) dX3_set_6 rfl ?_
  refine sm_iload_n (pc := 7) (n := 3) dX3_set_7 rfl ?_
  refine sm_aload_n (pc := 8) (n := 0) dX3_set_8 rfl ?_
  refine gf_X3_7 (pc := 9) rfl dX3_set_9 ?_
  refine sm_fm (pc := 12) wd_368 wd_369 wd_6 wd_370 (by decide) dX3_set_12 ?_
  refine sm_iastore (pc := 15) dX3_set_15 ?_
  exact sm_vreturn (pc := 16) dX3_set_16 rfl
noncomputable def f_X3_set {d : Nat} : List zV → zH d → zP d → Bool := zfn 4 b_X3_set
theorem m_X3_set {d : Nat} : zMet (d := d) X_X3_set yX3_set 1 f_X3_set := zmet_mk (X := X_X3_set) (by decide) rfl rfl s_X3_set

abbrev X_X3_inverse : zM := (RX3, cX3_inverse, 5, (some .int), "inverse")
noncomputable def bX3_inverse_34 {d : Nat} (P : zP d) (r12 : zK d) : zK d := (xild 3 (xild 3 (xbin zmul (xald 0 (xgfI 19 0 (xbinN zrem (xist 3 (xild 4 (xpI 1 (xbin zshr (xist 4 r12)))))))))))
set_option maxRecDepth 100000 in
set_option maxHeartbeats 4000000 in
theorem sbX3_inverse_34 {d : Nat} [zGh] (P : zP d) (r12 : zK d) (hr12 : zSim X_X3_inverse 1 P 12 r12) : zSim X_X3_inverse 1 P 34 (bX3_inverse_34 P r12) := by
  unfold bX3_inverse_34
  refine sm_iload_n (pc := 34) (n := 3) dX3_inverse_34 rfl ?_
  refine sm_iload_n (pc := 35) (n := 3) dX3_inverse_35 rfl ?_
  refine sm_imul (pc := 36) dX3_inverse_36 ?_
  refine sm_aload_n (pc := 37) (n := 0) dX3_inverse_37 rfl ?_
  refine gf_X3_7 (pc := 38) rfl dX3_inverse_38 ?_
  refine sm_irem (pc := 41) dX3_inverse_41 ?_
  refine sm_istore_n (pc := 42) (n := 3) dX3_inverse_42 rfl ?_
  refine sm_iload (pc := 43) (n := 4) dX3_inverse_43 ?_
  refine sm_iconst (pc := 45) dX3_inverse_45 zc_i_1 ?_
  refine sm_ishr (pc := 46) dX3_inverse_46 ?_
  refine sm_istore (pc := 47) (n := 4) dX3_inverse_47 ?_
  refine sm_goto (pc := 49) (tgt := 12) dX3_inverse_49 (by decide) ?_
  exact hr12
noncomputable def lX3_inverse_12 {d : Nat} (P : zP d) (r12 : zK d) : zK d := (xild 4 (xif0 t0le (xild 2 (xiret P)) (xild 4 (xpI 1 (xbin zand (xpI 1 (xjoin (bX3_inverse_34 P r12) (fun j34 => (xcmp Nat.beq (xild 2 (xild 3 (xbin zmul (xald 0 (xgfI 19 0 (xbinN zrem (xist 2 j34))))))) j34)))))))))
set_option maxRecDepth 100000 in
set_option maxHeartbeats 4000000 in
theorem slX3_inverse_12 {d : Nat} [zGh] (P : zP d) (r12 : zK d) (hr12 : zSim X_X3_inverse 1 P 12 r12) : zSim X_X3_inverse 1 P 12 (lX3_inverse_12 P r12) := by
  unfold lX3_inverse_12
  refine sm_iload (pc := 12) (n := 4) dX3_inverse_12 ?_
  refine sm_if_le (pc := 14) (tgt := 52) dX3_inverse_14 (by decide) ?_ ?_
  · skip
    refine sm_iload_n (pc := 52) (n := 2) dX3_inverse_52 rfl ?_
    exact sm_ireturn (pc := 53) dX3_inverse_53 rfl
  · skip
    refine sm_iload (pc := 17) (n := 4) dX3_inverse_17 ?_
    refine sm_iconst (pc := 19) dX3_inverse_19 zc_i_1 ?_
    refine sm_iand (pc := 20) dX3_inverse_20 ?_
    refine sm_iconst (pc := 21) dX3_inverse_21 zc_i_1 ?_
    refine sm_join (pc := 22) (pc' := 34) (sbX3_inverse_34 P r12 hr12) (fun j34 hj34 => ?_)
    refine sm_icmp_ne (pc := 22) (tgt := 34) dX3_inverse_22 (by decide) ?_ ?_
    · skip
      exact hj34
    · skip
      refine sm_iload_n (pc := 25) (n := 2) dX3_inverse_25 rfl ?_
      refine sm_iload_n (pc := 26) (n := 3) dX3_inverse_26 rfl ?_
      refine sm_imul (pc := 27) dX3_inverse_27 ?_
      refine sm_aload_n (pc := 28) (n := 0) dX3_inverse_28 rfl ?_
      refine gf_X3_7 (pc := 29) rfl dX3_inverse_29 ?_
      refine sm_irem (pc := 32) dX3_inverse_32 ?_
      refine sm_istore_n (pc := 33) (n := 2) dX3_inverse_33 rfl ?_
      exact hj34
noncomputable def b_X3_inverse {d : Nat} (P : zP d) : zK d := (xpI 1 (xist 2 (xild 1 (xist 3 (xald 0 (xgfI 19 0 (xpI 2 (xbin zsub (xist 4 (xloop (fun r12 => (lX3_inverse_12 P r12)) 100000))))))))))
set_option maxRecDepth 100000 in
set_option maxHeartbeats 4000000 in
theorem s_X3_inverse {d : Nat} [zGh] (P : zP d) : zSim X_X3_inverse 1 P 0 (b_X3_inverse P) := by
  unfold b_X3_inverse
  refine sm_iconst (pc := 0) dX3_inverse_0 zc_i_1 ?_
  refine sm_istore_n (pc := 1) (n := 2) dX3_inverse_1 rfl ?_
  refine sm_iload_n (pc := 2) (n := 1) dX3_inverse_2 rfl ?_
  refine sm_istore_n (pc := 3) (n := 3) dX3_inverse_3 rfl ?_
  refine sm_aload_n (pc := 4) (n := 0) dX3_inverse_4 rfl ?_
  refine gf_X3_7 (pc := 5) rfl dX3_inverse_5 ?_
  refine sm_iconst (pc := 8) dX3_inverse_8 zc_i_2 ?_
  refine sm_isub (pc := 9) dX3_inverse_9 ?_
  refine sm_istore (pc := 10) (n := 4) dX3_inverse_10 ?_
  exact sm_loop (fun r12 hr12 => slX3_inverse_12 P r12 hr12) _
noncomputable def f_X3_inverse {d : Nat} : List zV → zH d → zP d → Bool := zfn 5 b_X3_inverse
theorem m_X3_inverse {d : Nat} : zMet (d := d) X_X3_inverse yX3_inverse 1 f_X3_inverse := zmet_mk (X := X_X3_inverse) (by decide) rfl rfl s_X3_inverse

abbrev X_X3_scale : zM := (RX3, cX3_scale, 5, none, "scale")
noncomputable def lX3_scale_3 {d : Nat} (P : zP d) (r3 : zK d) : zK d := (xild 4 (xild 3 (xcmp tge (xvret P) (xald 1 (xild 4 (xald 1 (xild 4 (xald1 0 (xild 2 (xbin zmul (xald 0 (xgfI 19 0 (xbinN zrem (xast1 0 (fun v => v) (xinc 4 1 r3)))))))))))))))
set_option maxRecDepth 100000 in
set_option maxHeartbeats 4000000 in
theorem slX3_scale_3 {d : Nat} [zGh] (P : zP d) (r3 : zK d) (hr3 : zSim X_X3_scale 1 P 3 r3) : zSim X_X3_scale 1 P 3 (lX3_scale_3 P r3) := by
  unfold lX3_scale_3
  refine sm_iload (pc := 3) (n := 4) dX3_scale_3 ?_
  refine sm_iload_n (pc := 5) (n := 3) dX3_scale_5 rfl ?_
  refine sm_icmp_ge (pc := 6) (tgt := 30) dX3_scale_6 (by decide) ?_ ?_
  · skip
    exact sm_vreturn (pc := 30) dX3_scale_30 rfl
  · skip
    refine sm_aload_n (pc := 9) (n := 1) dX3_scale_9 rfl ?_
    refine sm_iload (pc := 10) (n := 4) dX3_scale_10 ?_
    refine sm_aload_n (pc := 12) (n := 1) dX3_scale_12 rfl ?_
    refine sm_iload (pc := 13) (n := 4) dX3_scale_13 ?_
    refine sm_iaload (pc := 15) dX3_scale_15 ?_
    refine sm_iload_n (pc := 16) (n := 2) dX3_scale_16 rfl ?_
    refine sm_imul (pc := 17) dX3_scale_17 ?_
    refine sm_aload_n (pc := 18) (n := 0) dX3_scale_18 rfl ?_
    refine gf_X3_7 (pc := 19) rfl dX3_scale_19 ?_
    refine sm_irem (pc := 22) dX3_scale_22 ?_
    refine sm_iastore (pc := 23) dX3_scale_23 ?_
    refine sm_iinc (pc := 24) (n := 4) dX3_scale_24 zc_i_1 ?_
    refine sm_goto (pc := 27) (tgt := 3) dX3_scale_27 (by decide) ?_
    exact hr3
noncomputable def b_X3_scale {d : Nat} (P : zP d) : zK d := (xpI 0 (xist 4 (xloop (fun r3 => (lX3_scale_3 P r3)) 100000)))
set_option maxRecDepth 100000 in
set_option maxHeartbeats 4000000 in
theorem s_X3_scale {d : Nat} [zGh] (P : zP d) : zSim X_X3_scale 1 P 0 (b_X3_scale P) := by
  unfold b_X3_scale
  refine sm_iconst (pc := 0) dX3_scale_0 zc_i_0 ?_
  refine sm_istore (pc := 1) (n := 4) dX3_scale_1 ?_
  exact sm_loop (fun r3 hr3 => slX3_scale_3 P r3 hr3) _
noncomputable def f_X3_scale {d : Nat} : List zV → zH d → zP d → Bool := zfn 5 b_X3_scale
theorem m_X3_scale {d : Nat} : zMet (d := d) X_X3_scale yX3_scale 1 f_X3_scale := zmet_mk (X := X_X3_scale) (by decide) rfl rfl s_X3_scale

abbrev X_X3_takeAway : zM := (RX3, cX3_takeAway, 7, none, "takeAway")
noncomputable def lX3_takeAway_11 {d : Nat} (P : zP d) (r11 : zK d) : zK d := (xild 6 (xild 4 (xcmp tge (xvret P) (xald 1 (xild 6 (xald 1 (xild 6 (xald1 0 (xild 5 (xald 3 (xild 6 (xald1 0 (xbin zmul (xbin zadd (xald 0 (xgfI 19 0 (xbinN zrem (xast1 0 (fun v => v) (xinc 6 1 r11)))))))))))))))))))
set_option maxRecDepth 100000 in
set_option maxHeartbeats 4000000 in
theorem slX3_takeAway_11 {d : Nat} [zGh] (P : zP d) (r11 : zK d) (hr11 : zSim X_X3_takeAway 1 P 11 r11) : zSim X_X3_takeAway 1 P 11 (lX3_takeAway_11 P r11) := by
  unfold lX3_takeAway_11
  refine sm_iload (pc := 11) (n := 6) dX3_takeAway_11 ?_
  refine sm_iload (pc := 13) (n := 4) dX3_takeAway_13 ?_
  refine sm_icmp_ge (pc := 15) (tgt := 45) dX3_takeAway_15 (by decide) ?_ ?_
  · skip
    exact sm_vreturn (pc := 45) dX3_takeAway_45 rfl
  · skip
    refine sm_aload_n (pc := 18) (n := 1) dX3_takeAway_18 rfl ?_
    refine sm_iload (pc := 19) (n := 6) dX3_takeAway_19 ?_
    refine sm_aload_n (pc := 21) (n := 1) dX3_takeAway_21 rfl ?_
    refine sm_iload (pc := 22) (n := 6) dX3_takeAway_22 ?_
    refine sm_iaload (pc := 24) dX3_takeAway_24 ?_
    refine sm_iload (pc := 25) (n := 5) dX3_takeAway_25 ?_
    refine sm_aload_n (pc := 27) (n := 3) dX3_takeAway_27 rfl ?_
    refine sm_iload (pc := 28) (n := 6) dX3_takeAway_28 ?_
    refine sm_iaload (pc := 30) dX3_takeAway_30 ?_
    refine sm_imul (pc := 31) dX3_takeAway_31 ?_
    refine sm_iadd (pc := 32) dX3_takeAway_32 ?_
    refine sm_aload_n (pc := 33) (n := 0) dX3_takeAway_33 rfl ?_
    refine gf_X3_7 (pc := 34) rfl dX3_takeAway_34 ?_
    refine sm_irem (pc := 37) dX3_takeAway_37 ?_
    refine sm_iastore (pc := 38) dX3_takeAway_38 ?_
    refine sm_iinc (pc := 39) (n := 6) dX3_takeAway_39 zc_i_1 ?_
    refine sm_goto (pc := 42) (tgt := 11) dX3_takeAway_42 (by decide) ?_
    exact hr11
noncomputable def b_X3_takeAway {d : Nat} (P : zP d) : zK d := (xald 0 (xgfI 19 0 (xild 2 (xbin zsub (xist 5 (xpI 0 (xist 6 (xloop (fun r11 => (lX3_takeAway_11 P r11)) 100000))))))))
set_option maxRecDepth 100000 in
set_option maxHeartbeats 4000000 in
theorem s_X3_takeAway {d : Nat} [zGh] (P : zP d) : zSim X_X3_takeAway 1 P 0 (b_X3_takeAway P) := by
  unfold b_X3_takeAway
  refine sm_aload_n (pc := 0) (n := 0) dX3_takeAway_0 rfl ?_
  refine gf_X3_7 (pc := 1) rfl dX3_takeAway_1 ?_
  refine sm_iload_n (pc := 4) (n := 2) dX3_takeAway_4 rfl ?_
  refine sm_isub (pc := 5) dX3_takeAway_5 ?_
  refine sm_istore (pc := 6) (n := 5) dX3_takeAway_6 ?_
  refine sm_iconst (pc := 8) dX3_takeAway_8 zc_i_0 ?_
  refine sm_istore (pc := 9) (n := 6) dX3_takeAway_9 ?_
  exact sm_loop (fun r11 hr11 => slX3_takeAway_11 P r11 hr11) _
noncomputable def f_X3_takeAway {d : Nat} : List zV → zH d → zP d → Bool := zfn 7 b_X3_takeAway
theorem m_X3_takeAway {d : Nat} : zMet (d := d) X_X3_takeAway yX3_takeAway 1 f_X3_takeAway := zmet_mk (X := X_X3_takeAway) (by decide) rfl rfl s_X3_takeAway

abbrev X_X3_reduce : zM := (RX3, cX3_reduce, 9, (some .int), "reduce")
noncomputable def bX3_reduce_172 {d : Nat} (P : zP d) : zK d := (xild 4 (xiret P))
set_option maxRecDepth 100000 in
set_option maxHeartbeats 4000000 in
theorem sbX3_reduce_172 {d : Nat} [zGh] (P : zP d) : zSim X_X3_reduce 2 P 172 (bX3_reduce_172 P) := by
  unfold bX3_reduce_172
  refine sm_iload (pc := 172) (n := 4) dX3_reduce_172 ?_
  exact sm_ireturn (pc := 174) dX3_reduce_174 rfl
noncomputable def bX3_reduce_166 {d : Nat} (P : zP d) (r6 : zK d) : zK d := (xinc 5 1 r6)
set_option maxRecDepth 100000 in
set_option maxHeartbeats 4000000 in
theorem sbX3_reduce_166 {d : Nat} [zGh] (P : zP d) (r6 : zK d) (hr6 : zSim X_X3_reduce 2 P 6 r6) : zSim X_X3_reduce 2 P 166 (bX3_reduce_166 P r6) := by
  unfold bX3_reduce_166
  refine sm_iinc (pc := 166) (n := 5) dX3_reduce_166 zc_i_1 ?_
  refine sm_goto (pc := 169) (tgt := 6) dX3_reduce_169 (by decide) ?_
  exact hr6
noncomputable def bX3_reduce_157 {d : Nat} (P : zP d) (r107 : zK d) : zK d := (xinc 8 1 r107)
set_option maxRecDepth 100000 in
set_option maxHeartbeats 4000000 in
theorem sbX3_reduce_157 {d : Nat} [zGh] (P : zP d) (r107 : zK d) (hr107 : zSim X_X3_reduce 2 P 107 r107) : zSim X_X3_reduce 2 P 157 (bX3_reduce_157 P r107) := by
  unfold bX3_reduce_157
  refine sm_iinc (pc := 157) (n := 8) dX3_reduce_157 zc_i_1 ?_
  refine sm_goto (pc := 160) (tgt := 107) dX3_reduce_160 (by decide) ?_
  exact hr107
noncomputable def cX3_reduce_151 {d : Nat} (P : zP d) (j157 : zK d) : zK d := (xald 7 (xild 3 (xcV 19 5 0 0 f_X3_takeAway j157)))
set_option maxRecDepth 100000 in
set_option maxHeartbeats 4000000 in
theorem scX3_reduce_151 {d : Nat} [zGh] (P : zP d) (j157 : zK d) (hj157 : zSim X_X3_reduce 2 P 157 j157) : zSim X_X3_reduce 2 P 151 (cX3_reduce_151 P j157) := by
  unfold cX3_reduce_151
  refine sm_aload (pc := 151) (n := 7) dX3_reduce_151 ?_
  refine sm_iload_n (pc := 153) (n := 3) dX3_reduce_153 rfl ?_
  refine sm_cV (pc := 154) (ci := 3) (n := 5) (mc := 0) (ms := 0) rfl m_X3_takeAway (cr_X3_32 (X := X_X3_reduce) (fr := 2) (frc := 1) (pc := 154) (mc := 0) (ms := 0) rfl (by decide) dX3_reduce_154) ?_
  exact hj157
noncomputable def lX3_reduce_107 {d : Nat} (P : zP d) (j166 : zK d) (r107 : zK d) : zK d := (xild 8 (xild 1 (xcmp tge (xinc 4 1 j166) (xild 8 (xild 4 (xjoin (bX3_reduce_157 P r107) (fun j157 => (xcmp Nat.beq j157 (xald 0 (xgfR 19 1 (xild 8 (xaal (xild 5 (xald1 0 (xif0 t0eq j157 (xald 0 (xald 0 (xgfR 19 1 (xild 8 (xaal (xald 0 (xgfR 19 1 (xild 8 (xaal (xild 5 (xald1 0 (cX3_reduce_151 P j157)))))))))))))))))))))))))))
set_option maxRecDepth 100000 in
set_option maxHeartbeats 4000000 in
theorem slX3_reduce_107 {d : Nat} [zGh] (P : zP d) (j166 : zK d) (r107 : zK d) (hj166 : zSim X_X3_reduce 2 P 166 j166) (hr107 : zSim X_X3_reduce 2 P 107 r107) : zSim X_X3_reduce 2 P 107 (lX3_reduce_107 P j166 r107) := by
  unfold lX3_reduce_107
  refine sm_iload (pc := 107) (n := 8) dX3_reduce_107 ?_
  refine sm_iload_n (pc := 109) (n := 1) dX3_reduce_109 rfl ?_
  refine sm_icmp_ge (pc := 110) (tgt := 163) dX3_reduce_110 (by decide) ?_ ?_
  · skip
    refine sm_iinc (pc := 163) (n := 4) dX3_reduce_163 zc_i_1 ?_
    exact hj166
  · skip
    refine sm_iload (pc := 113) (n := 8) dX3_reduce_113 ?_
    refine sm_iload (pc := 115) (n := 4) dX3_reduce_115 ?_
    refine sm_join (pc := 117) (pc' := 157) (sbX3_reduce_157 P r107 hr107) (fun j157 hj157 => ?_)
    refine sm_icmp_eq (pc := 117) (tgt := 157) dX3_reduce_117 (by decide) ?_ ?_
    · skip
      exact hj157
    · skip
      refine sm_aload_n (pc := 120) (n := 0) dX3_reduce_120 rfl ?_
      refine gf_X3_15 (pc := 121) rfl dX3_reduce_121 ?_
      refine sm_iload (pc := 124) (n := 8) dX3_reduce_124 ?_
      refine sm_aaload (pc := 126) dX3_reduce_126 ?_
      refine sm_iload (pc := 127) (n := 5) dX3_reduce_127 ?_
      refine sm_iaload (pc := 129) dX3_reduce_129 ?_
      refine sm_if_eq (pc := 130) (tgt := 157) dX3_reduce_130 (by decide) ?_ ?_
      · skip
        exact hj157
      · skip
        refine sm_aload_n (pc := 133) (n := 0) dX3_reduce_133 rfl ?_
        refine sm_aload_n (pc := 134) (n := 0) dX3_reduce_134 rfl ?_
        refine gf_X3_15 (pc := 135) rfl dX3_reduce_135 ?_
        refine sm_iload (pc := 138) (n := 8) dX3_reduce_138 ?_
        refine sm_aaload (pc := 140) dX3_reduce_140 ?_
        refine sm_aload_n (pc := 141) (n := 0) dX3_reduce_141 rfl ?_
        refine gf_X3_15 (pc := 142) rfl dX3_reduce_142 ?_
        refine sm_iload (pc := 145) (n := 8) dX3_reduce_145 ?_
        refine sm_aaload (pc := 147) dX3_reduce_147 ?_
        refine sm_iload (pc := 148) (n := 5) dX3_reduce_148 ?_
        refine sm_iaload (pc := 150) dX3_reduce_150 ?_
        exact scX3_reduce_151 P j157 hj157
noncomputable def cX3_reduce_92 {d : Nat} (P : zP d) (j166 : zK d) : zK d := (xald 7 (xild 5 (xald1 0 (xcV 19 2 0 0 f_X3_inverse (xild 3 (xcV 19 4 0 0 f_X3_scale (xpI 0 (xist 8 (xloop (fun r107 => (lX3_reduce_107 P j166 r107)) 100000)))))))))
set_option maxRecDepth 100000 in
set_option maxHeartbeats 4000000 in
theorem scX3_reduce_92 {d : Nat} [zGh] (P : zP d) (j166 : zK d) (hj166 : zSim X_X3_reduce 2 P 166 j166) : zSim X_X3_reduce 2 P 92 (cX3_reduce_92 P j166) := by
  unfold cX3_reduce_92
  refine sm_aload (pc := 92) (n := 7) dX3_reduce_92 ?_
  refine sm_iload (pc := 94) (n := 5) dX3_reduce_94 ?_
  refine sm_iaload (pc := 96) dX3_reduce_96 ?_
  refine sm_cV (pc := 97) (ci := 3) (n := 2) (mc := 0) (ms := 0) rfl m_X3_inverse (cr_X3_24 (X := X_X3_reduce) (fr := 2) (frc := 1) (pc := 97) (mc := 0) (ms := 0) rfl (by decide) dX3_reduce_97) ?_
  refine sm_iload_n (pc := 100) (n := 3) dX3_reduce_100 rfl ?_
  refine sm_cV (pc := 101) (ci := 3) (n := 4) (mc := 0) (ms := 0) rfl m_X3_scale (cr_X3_28 (X := X_X3_reduce) (fr := 2) (frc := 1) (pc := 101) (mc := 0) (ms := 0) rfl (by decide) dX3_reduce_101) ?_
  refine sm_iconst (pc := 104) dX3_reduce_104 zc_i_0 ?_
  refine sm_istore (pc := 105) (n := 8) dX3_reduce_105 ?_
  exact sm_loop (fun r107 hr107 => slX3_reduce_107 P j166 r107 hj166 hr107) _
noncomputable def bX3_reduce_47 {d : Nat} (P : zP d) (r6 : zK d) : zK d := (xild 6 (xild 1 (xjoin (bX3_reduce_166 P r6) (fun j166 => (xcmp Nat.beq j166 (xald 0 (xgfR 19 1 (xild 6 (xaal (xast 7 (xald 0 (xgfR 19 1 (xild 6 (xald 0 (xgfR 19 1 (xild 4 (xaal (xaas 3 0 (xald 0 (xgfR 19 1 (xild 4 (xald 7 (xaas 3 0 (xald 0 (xald 7 (xald 0 (cX3_reduce_92 P j166)))))))))))))))))))))))))))
set_option maxRecDepth 100000 in
set_option maxHeartbeats 4000000 in
theorem sbX3_reduce_47 {d : Nat} [zGh] (P : zP d) (r6 : zK d) (hr6 : zSim X_X3_reduce 2 P 6 r6) : zSim X_X3_reduce 2 P 47 (bX3_reduce_47 P r6) := by
  unfold bX3_reduce_47
  refine sm_iload (pc := 47) (n := 6) dX3_reduce_47 ?_
  refine sm_iload_n (pc := 49) (n := 1) dX3_reduce_49 rfl ?_
  refine sm_join (pc := 50) (pc' := 166) (sbX3_reduce_166 P r6 hr6) (fun j166 hj166 => ?_)
  refine sm_icmp_ne (pc := 50) (tgt := 56) dX3_reduce_50 (by decide) ?_ ?_
  · skip
    refine sm_aload_n (pc := 56) (n := 0) dX3_reduce_56 rfl ?_
    refine gf_X3_15 (pc := 57) rfl dX3_reduce_57 ?_
    refine sm_iload (pc := 60) (n := 6) dX3_reduce_60 ?_
    refine sm_aaload (pc := 62) dX3_reduce_62 ?_
    refine sm_astore (pc := 63) (n := 7) dX3_reduce_63 ?_
    refine sm_aload_n (pc := 65) (n := 0) dX3_reduce_65 rfl ?_
    refine gf_X3_15 (pc := 66) rfl dX3_reduce_66 ?_
    refine sm_iload (pc := 69) (n := 6) dX3_reduce_69 ?_
    refine sm_aload_n (pc := 71) (n := 0) dX3_reduce_71 rfl ?_
    refine gf_X3_15 (pc := 72) rfl dX3_reduce_72 ?_
    refine sm_iload (pc := 75) (n := 4) dX3_reduce_75 ?_
    refine sm_aaload (pc := 77) dX3_reduce_77 ?_
    refine sm_aastoreI (pc := 78) dX3_reduce_78 ?_
    refine sm_aload_n (pc := 79) (n := 0) dX3_reduce_79 rfl ?_
    refine gf_X3_15 (pc := 80) rfl dX3_reduce_80 ?_
    refine sm_iload (pc := 83) (n := 4) dX3_reduce_83 ?_
    refine sm_aload (pc := 85) (n := 7) dX3_reduce_85 ?_
    refine sm_aastoreI (pc := 87) dX3_reduce_87 ?_
    refine sm_aload_n (pc := 88) (n := 0) dX3_reduce_88 rfl ?_
    refine sm_aload (pc := 89) (n := 7) dX3_reduce_89 ?_
    refine sm_aload_n (pc := 91) (n := 0) dX3_reduce_91 rfl ?_
    exact scX3_reduce_92 P j166 hj166
  · skip
    refine sm_goto (pc := 53) (tgt := 166) dX3_reduce_53 (by decide) ?_
    exact hj166
noncomputable def lX3_reduce_22 {d : Nat} (P : zP d) (r22 : zK d) (r6 : zK d) : zK d := (xild 6 (xild 1 (xjoin (bX3_reduce_47 P r6) (fun j47 => (xcmp tge j47 (xald 0 (xgfR 19 1 (xild 6 (xaal (xild 5 (xald1 0 (xif0 t0eq (xinc 6 1 r22) j47))))))))))))
set_option maxRecDepth 100000 in
set_option maxHeartbeats 4000000 in
theorem slX3_reduce_22 {d : Nat} [zGh] (P : zP d) (r22 : zK d) (r6 : zK d) (hr22 : zSim X_X3_reduce 2 P 22 r22) (hr6 : zSim X_X3_reduce 2 P 6 r6) : zSim X_X3_reduce 2 P 22 (lX3_reduce_22 P r22 r6) := by
  unfold lX3_reduce_22
  refine sm_iload (pc := 22) (n := 6) dX3_reduce_22 ?_
  refine sm_iload_n (pc := 24) (n := 1) dX3_reduce_24 rfl ?_
  refine sm_join (pc := 25) (pc' := 47) (sbX3_reduce_47 P r6 hr6) (fun j47 hj47 => ?_)
  refine sm_icmp_ge (pc := 25) (tgt := 47) dX3_reduce_25 (by decide) ?_ ?_
  · skip
    exact hj47
  · skip
    refine sm_aload_n (pc := 28) (n := 0) dX3_reduce_28 rfl ?_
    refine gf_X3_15 (pc := 29) rfl dX3_reduce_29 ?_
    refine sm_iload (pc := 32) (n := 6) dX3_reduce_32 ?_
    refine sm_aaload (pc := 34) dX3_reduce_34 ?_
    refine sm_iload (pc := 35) (n := 5) dX3_reduce_35 ?_
    refine sm_iaload (pc := 37) dX3_reduce_37 ?_
    refine sm_if_ne (pc := 38) (tgt := 47) dX3_reduce_38 (by decide) ?_ ?_
    · skip
      exact hj47
    · skip
      refine sm_iinc (pc := 41) (n := 6) dX3_reduce_41 zc_i_1 ?_
      refine sm_goto (pc := 44) (tgt := 22) dX3_reduce_44 (by decide) ?_
      exact hr22
noncomputable def lX3_reduce_6 {d : Nat} (P : zP d) (r6 : zK d) : zK d := (xild 5 (xild 2 (xjoin (bX3_reduce_172 P) (fun j172 => (xcmp tge j172 (xild 4 (xild 1 (xcmp tge j172 (xild 4 (xist 6 (xloop (fun r22 => (lX3_reduce_22 P r22 r6)) 100000)))))))))))
set_option maxRecDepth 100000 in
set_option maxHeartbeats 4000000 in
theorem slX3_reduce_6 {d : Nat} [zGh] (P : zP d) (r6 : zK d) (hr6 : zSim X_X3_reduce 2 P 6 r6) : zSim X_X3_reduce 2 P 6 (lX3_reduce_6 P r6) := by
  unfold lX3_reduce_6
  refine sm_iload (pc := 6) (n := 5) dX3_reduce_6 ?_
  refine sm_iload_n (pc := 8) (n := 2) dX3_reduce_8 rfl ?_
  refine sm_join (pc := 9) (pc' := 172) (sbX3_reduce_172 P) (fun j172 hj172 => ?_)
  refine sm_icmp_ge (pc := 9) (tgt := 172) dX3_reduce_9 (by decide) ?_ ?_
  · skip
    exact hj172
  · skip
    refine sm_iload (pc := 12) (n := 4) dX3_reduce_12 ?_
    refine sm_iload_n (pc := 14) (n := 1) dX3_reduce_14 rfl ?_
    refine sm_icmp_ge (pc := 15) (tgt := 172) dX3_reduce_15 (by decide) ?_ ?_
    · skip
      exact hj172
    · skip
      refine sm_iload (pc := 18) (n := 4) dX3_reduce_18 ?_
      refine sm_istore (pc := 20) (n := 6) dX3_reduce_20 ?_
      exact sm_loop (fun r22 hr22 => slX3_reduce_22 P r22 r6 hr22 hr6) _
noncomputable def b_X3_reduce {d : Nat} (P : zP d) : zK d := (xpI 0 (xist 4 (xpI 0 (xist 5 (xloop (fun r6 => (lX3_reduce_6 P r6)) 100000)))))
set_option maxRecDepth 100000 in
set_option maxHeartbeats 4000000 in
theorem s_X3_reduce {d : Nat} [zGh] (P : zP d) : zSim X_X3_reduce 2 P 0 (b_X3_reduce P) := by
  unfold b_X3_reduce
  refine sm_iconst (pc := 0) dX3_reduce_0 zc_i_0 ?_
  refine sm_istore (pc := 1) (n := 4) dX3_reduce_1 ?_
  refine sm_iconst (pc := 3) dX3_reduce_3 zc_i_0 ?_
  refine sm_istore (pc := 4) (n := 5) dX3_reduce_4 ?_
  exact sm_loop (fun r6 hr6 => slX3_reduce_6 P r6 hr6) _
noncomputable def f_X3_reduce {d : Nat} : List zV → zH d → zP d → Bool := zfn 9 b_X3_reduce
theorem m_X3_reduce {d : Nat} : zMet (d := d) X_X3_reduce yX3_reduce 2 f_X3_reduce := zmet_mk (X := X_X3_reduce) (by decide) rfl rfl s_X3_reduce

abbrev X_X8_factorialOf : zM := (RX8, cX8_factorialOf, 3, (some .int), "factorialOf")
noncomputable def lX8_factorialOf_4 {d : Nat} (P : zP d) (r4 : zK d) : zK d := (xild 2 (xild 0 (xcmp tle (xild 1 (xild 2 (xbin zmul (xist 1 (xinc 2 1 r4))))) (xild 1 (xiret P)))))
set_option maxRecDepth 100000 in
set_option maxHeartbeats 4000000 in
theorem slX8_factorialOf_4 {d : Nat} [zGh] (P : zP d) (r4 : zK d) (hr4 : zSim X_X8_factorialOf 1 P 4 r4) : zSim X_X8_factorialOf 1 P 4 (lX8_factorialOf_4 P r4) := by
  unfold lX8_factorialOf_4
  refine sm_iload_n (pc := 4) (n := 2) dX8_factorialOf_4 rfl ?_
  refine sm_iload_n (pc := 5) (n := 0) dX8_factorialOf_5 rfl ?_
  refine sm_icmp_gt (pc := 6) (tgt := 19) dX8_factorialOf_6 (by decide) ?_ ?_
  · skip
    refine sm_iload_n (pc := 19) (n := 1) dX8_factorialOf_19 rfl ?_
    exact sm_ireturn (pc := 20) dX8_factorialOf_20 rfl
  · skip
    refine sm_iload_n (pc := 9) (n := 1) dX8_factorialOf_9 rfl ?_
    refine sm_iload_n (pc := 10) (n := 2) dX8_factorialOf_10 rfl ?_
    refine sm_imul (pc := 11) dX8_factorialOf_11 ?_
    refine sm_istore_n (pc := 12) (n := 1) dX8_factorialOf_12 rfl ?_
    refine sm_iinc (pc := 13) (n := 2) dX8_factorialOf_13 zc_i_1 ?_
    refine sm_goto (pc := 16) (tgt := 4) dX8_factorialOf_16 (by decide) ?_
    exact hr4
noncomputable def b_X8_factorialOf {d : Nat} (P : zP d) : zK d := (xpI 1 (xist 1 (xpI 2 (xist 2 (xloop (fun r4 => (lX8_factorialOf_4 P r4)) 100000)))))
set_option maxRecDepth 100000 in
set_option maxHeartbeats 4000000 in
theorem s_X8_factorialOf {d : Nat} [zGh] (P : zP d) : zSim X_X8_factorialOf 1 P 0 (b_X8_factorialOf P) := by
  unfold b_X8_factorialOf
  refine sm_iconst (pc := 0) dX8_factorialOf_0 zc_i_1 ?_
  refine sm_istore_n (pc := 1) (n := 1) dX8_factorialOf_1 rfl ?_
  refine sm_iconst (pc := 2) dX8_factorialOf_2 zc_i_2 ?_
  refine sm_istore_n (pc := 3) (n := 2) dX8_factorialOf_3 rfl ?_
  exact sm_loop (fun r4 hr4 => slX8_factorialOf_4 P r4 hr4) _
noncomputable def f_X8_factorialOf {d : Nat} : List zV → zH d → zP d → Bool := zfn 3 b_X8_factorialOf
theorem m_X8_factorialOf {d : Nat} : zMet (d := d) X_X8_factorialOf yX8_factorialOf 1 f_X8_factorialOf := zmet_mk (X := X_X8_factorialOf) (by decide) rfl rfl s_X8_factorialOf

abbrev X_X8_greatestDivisor : zM := (RX8, cX8_greatestDivisor, 11, (some .long), "greatestDivisor")
noncomputable def bX8_greatestDivisor_45 {d : Nat} (P : zP d) : zK d := (xlld 4 (xlret P))
set_option maxRecDepth 100000 in
set_option maxHeartbeats 4000000 in
theorem sbX8_greatestDivisor_45 {d : Nat} [zGh] (P : zP d) : zSim X_X8_greatestDivisor 1 P 45 (bX8_greatestDivisor_45 P) := by
  unfold bX8_greatestDivisor_45
  refine sm_lload (pc := 45) (n := 4) dX8_greatestDivisor_45 ?_
  exact sm_lreturn (pc := 47) dX8_greatestDivisor_47 rfl
noncomputable def lX8_greatestDivisor_9 {d : Nat} (P : zP d) (r9 : zK d) : zK d := (xild 8 (xpI 200 (xjoin (bX8_greatestDivisor_45 P) (fun j45 => (xcmp tge j45 (xlld 6 (xpL 0 (xlcmp (xif0 t0eq j45 (xlld 4 (xlld 6 (xbinjN zremj (xlst 9 (xlld 6 (xlst 4 (xlld 9 (xlst 6 (xinc 8 1 r9))))))))))))))))))
set_option maxRecDepth 100000 in
set_option maxHeartbeats 4000000 in
theorem slX8_greatestDivisor_9 {d : Nat} [zGh] (P : zP d) (r9 : zK d) (hr9 : zSim X_X8_greatestDivisor 1 P 9 r9) : zSim X_X8_greatestDivisor 1 P 9 (lX8_greatestDivisor_9 P r9) := by
  unfold lX8_greatestDivisor_9
  refine sm_iload (pc := 9) (n := 8) dX8_greatestDivisor_9 ?_
  refine sm_sipush (pc := 11) dX8_greatestDivisor_11 zc_s_200 ?_
  refine sm_join (pc := 14) (pc' := 45) (sbX8_greatestDivisor_45 P) (fun j45 hj45 => ?_)
  refine sm_icmp_ge (pc := 14) (tgt := 45) dX8_greatestDivisor_14 (by decide) ?_ ?_
  · skip
    exact hj45
  · skip
    refine sm_lload (pc := 17) (n := 6) dX8_greatestDivisor_17 ?_
    refine sm_lconst (pc := 19) dX8_greatestDivisor_19 zc_l_0 ?_
    refine sm_lcmp (pc := 20) dX8_greatestDivisor_20 ?_
    refine sm_if_eq (pc := 21) (tgt := 45) dX8_greatestDivisor_21 (by decide) ?_ ?_
    · skip
      exact hj45
    · skip
      refine sm_lload (pc := 24) (n := 4) dX8_greatestDivisor_24 ?_
      refine sm_lload (pc := 26) (n := 6) dX8_greatestDivisor_26 ?_
      refine sm_lrem (pc := 28) dX8_greatestDivisor_28 ?_
      refine sm_lstore (pc := 29) (n := 9) dX8_greatestDivisor_29 ?_
      refine sm_lload (pc := 31) (n := 6) dX8_greatestDivisor_31 ?_
      refine sm_lstore (pc := 33) (n := 4) dX8_greatestDivisor_33 ?_
      refine sm_lload (pc := 35) (n := 9) dX8_greatestDivisor_35 ?_
      refine sm_lstore (pc := 37) (n := 6) dX8_greatestDivisor_37 ?_
      refine sm_iinc (pc := 39) (n := 8) dX8_greatestDivisor_39 zc_i_1 ?_
      refine sm_goto (pc := 42) (tgt := 9) dX8_greatestDivisor_42 (by decide) ?_
      exact hr9
noncomputable def b_X8_greatestDivisor {d : Nat} (P : zP d) : zK d := (xlld 0 (xlst 4 (xlld 2 (xlst 6 (xpI 0 (xist 8 (xloop (fun r9 => (lX8_greatestDivisor_9 P r9)) 100000)))))))
set_option maxRecDepth 100000 in
set_option maxHeartbeats 4000000 in
theorem s_X8_greatestDivisor {d : Nat} [zGh] (P : zP d) : zSim X_X8_greatestDivisor 1 P 0 (b_X8_greatestDivisor P) := by
  unfold b_X8_greatestDivisor
  refine sm_lload_n (pc := 0) (n := 0) dX8_greatestDivisor_0 rfl ?_
  refine sm_lstore (pc := 1) (n := 4) dX8_greatestDivisor_1 ?_
  refine sm_lload_n (pc := 3) (n := 2) dX8_greatestDivisor_3 rfl ?_
  refine sm_lstore (pc := 4) (n := 6) dX8_greatestDivisor_4 ?_
  refine sm_iconst (pc := 6) dX8_greatestDivisor_6 zc_i_0 ?_
  refine sm_istore (pc := 7) (n := 8) dX8_greatestDivisor_7 ?_
  exact sm_loop (fun r9 hr9 => slX8_greatestDivisor_9 P r9 hr9) _
noncomputable def f_X8_greatestDivisor {d : Nat} : List zV → zH d → zP d → Bool := zfn 11 b_X8_greatestDivisor
theorem m_X8_greatestDivisor {d : Nat} : zMet (d := d) X_X8_greatestDivisor yX8_greatestDivisor 1 f_X8_greatestDivisor := zmet_mk (X := X_X8_greatestDivisor) (by decide) rfl rfl s_X8_greatestDivisor

abbrev X_X8_bit : zM := (RX8, cX8_bit, 1, (some .int), "bit")
noncomputable def bX8_bit_9 {d : Nat} (P : zP d) : zK d := (xiret P)
set_option maxRecDepth 100000 in
set_option maxHeartbeats 4000000 in
theorem sbX8_bit_9 {d : Nat} [zGh] (P : zP d) : zSim X_X8_bit 1 P 9 (bX8_bit_9 P) := by
  unfold bX8_bit_9
  exact sm_ireturn (pc := 9) dX8_bit_9 rfl
noncomputable def b_X8_bit {d : Nat} (P : zP d) : zK d := (xild 0 (xjoin (bX8_bit_9 P) (fun j9 => (xif0 t0eq (xpI 0 j9) (xpI 1 j9)))))
set_option maxRecDepth 100000 in
set_option maxHeartbeats 4000000 in
theorem s_X8_bit {d : Nat} [zGh] (P : zP d) : zSim X_X8_bit 1 P 0 (b_X8_bit P) := by
  unfold b_X8_bit
  refine sm_iload_n (pc := 0) (n := 0) dX8_bit_0 rfl ?_
  refine sm_join (pc := 1) (pc' := 9) (sbX8_bit_9 P) (fun j9 hj9 => ?_)
  refine sm_if_eq (pc := 1) (tgt := 8) dX8_bit_1 (by decide) ?_ ?_
  · skip
    refine sm_iconst (pc := 8) dX8_bit_8 zc_i_0 ?_
    exact hj9
  · skip
    refine sm_iconst (pc := 4) dX8_bit_4 zc_i_1 ?_
    refine sm_goto (pc := 5) (tgt := 9) dX8_bit_5 (by decide) ?_
    exact hj9
noncomputable def f_X8_bit {d : Nat} : List zV → zH d → zP d → Bool := zfn 1 b_X8_bit
theorem m_X8_bit {d : Nat} : zMet (d := d) X_X8_bit yX8_bit 1 f_X8_bit := zmet_mk (X := X_X8_bit) (by decide) rfl rfl s_X8_bit

abbrev X_X8_isSlot : zM := (RX8, cX8_isSlot, 1, (some .boolean), "isSlot")
noncomputable def bX8_isSlot_15 {d : Nat} (P : zP d) : zK d := (xzret P)
set_option maxRecDepth 100000 in
set_option maxHeartbeats 4000000 in
theorem sbX8_isSlot_15 {d : Nat} [zGh] (P : zP d) : zSim X_X8_isSlot 1 P 15 (bX8_isSlot_15 P) := by
  unfold bX8_isSlot_15
  exact sm_zreturn (pc := 15) dX8_isSlot_15 rfl
noncomputable def bX8_isSlot_14 {d : Nat} (P : zP d) (j15 : zK d) : zK d := (xpI 0 j15)
set_option maxRecDepth 100000 in
set_option maxHeartbeats 4000000 in
theorem sbX8_isSlot_14 {d : Nat} [zGh] (P : zP d) (j15 : zK d) (hj15 : zSim X_X8_isSlot 1 P 15 j15) : zSim X_X8_isSlot 1 P 14 (bX8_isSlot_14 P j15) := by
  unfold bX8_isSlot_14
  refine sm_iconst (pc := 14) dX8_isSlot_14 zc_i_0 ?_
  exact hj15
noncomputable def b_X8_isSlot {d : Nat} (P : zP d) : zK d := (xild 0 (xjoin (bX8_isSlot_15 P) (fun j15 => (xjoin (bX8_isSlot_14 P j15) (fun j14 => (xif0 t0ge (xild 0 (xpI 6 (xcmp tge j14 (xpI 1 j15)))) j14))))))
set_option maxRecDepth 100000 in
set_option maxHeartbeats 4000000 in
theorem s_X8_isSlot {d : Nat} [zGh] (P : zP d) : zSim X_X8_isSlot 1 P 0 (b_X8_isSlot P) := by
  unfold b_X8_isSlot
  refine sm_iload_n (pc := 0) (n := 0) dX8_isSlot_0 rfl ?_
  refine sm_join (pc := 1) (pc' := 15) (sbX8_isSlot_15 P) (fun j15 hj15 => ?_)
  refine sm_join (pc := 1) (pc' := 14) (sbX8_isSlot_14 P j15 hj15) (fun j14 hj14 => ?_)
  refine sm_if_lt (pc := 1) (tgt := 14) dX8_isSlot_1 (by decide) ?_ ?_
  · skip
    exact hj14
  · skip
    refine sm_iload_n (pc := 4) (n := 0) dX8_isSlot_4 rfl ?_
    refine sm_bipush (pc := 5) dX8_isSlot_5 zc_b_6 ?_
    refine sm_icmp_ge (pc := 7) (tgt := 14) dX8_isSlot_7 (by decide) ?_ ?_
    · skip
      exact hj14
    · skip
      refine sm_iconst (pc := 10) dX8_isSlot_10 zc_i_1 ?_
      refine sm_goto (pc := 11) (tgt := 15) dX8_isSlot_11 (by decide) ?_
      exact hj15
noncomputable def f_X8_isSlot {d : Nat} : List zV → zH d → zP d → Bool := zfn 1 b_X8_isSlot
theorem m_X8_isSlot {d : Nat} : zMet (d := d) X_X8_isSlot yX8_isSlot 1 f_X8_isSlot := zmet_mk (X := X_X8_isSlot) (by decide) rfl rfl s_X8_isSlot

abbrev X_X8_groupIndex : zM := (RX8, cX8_groupIndex, 2, (some .int), "groupIndex")
noncomputable def b_X8_groupIndex {d : Nat} (P : zP d) : zK d := (xild 0 (xpI 8 (xbin zmul (xild 1 (xbin zadd (xiret P))))))
set_option maxRecDepth 100000 in
set_option maxHeartbeats 4000000 in
theorem s_X8_groupIndex {d : Nat} [zGh] (P : zP d) : zSim X_X8_groupIndex 1 P 0 (b_X8_groupIndex P) := by
  unfold b_X8_groupIndex
  refine sm_iload_n (pc := 0) (n := 0) dX8_groupIndex_0 rfl ?_
  refine sm_bipush (pc := 1) dX8_groupIndex_1 zc_b_8 ?_
  refine sm_imul (pc := 3) dX8_groupIndex_3 ?_
  refine sm_iload_n (pc := 4) (n := 1) dX8_groupIndex_4 rfl ?_
  refine sm_iadd (pc := 5) dX8_groupIndex_5 ?_
  exact sm_ireturn (pc := 6) dX8_groupIndex_6 rfl
noncomputable def f_X8_groupIndex {d : Nat} : List zV → zH d → zP d → Bool := zfn 2 b_X8_groupIndex
theorem m_X8_groupIndex {d : Nat} : zMet (d := d) X_X8_groupIndex yX8_groupIndex 1 f_X8_groupIndex := zmet_mk (X := X_X8_groupIndex) (by decide) rfl rfl s_X8_groupIndex

abbrev X_X8_partAt : zM := (RX8, cX8_partAt, 2, (some .int), "partAt")
noncomputable def bX8_partAt_13 {d : Nat} (P : zP d) : zK d := (xiret P)
set_option maxRecDepth 100000 in
set_option maxHeartbeats 4000000 in
theorem sbX8_partAt_13 {d : Nat} [zGh] (P : zP d) : zSim X_X8_partAt 1 P 13 (bX8_partAt_13 P) := by
  unfold bX8_partAt_13
  exact sm_ireturn (pc := 13) dX8_partAt_13 rfl
noncomputable def b_X8_partAt {d : Nat} (P : zP d) : zK d := (xild 1 (xald 0 (xlen (xjoin (bX8_partAt_13 P) (fun j13 => (xcmp tge (xpI 0 j13) (xald 0 (xild 1 (xald1 0 j13)))))))))
set_option maxRecDepth 100000 in
set_option maxHeartbeats 4000000 in
theorem s_X8_partAt {d : Nat} [zGh] (P : zP d) : zSim X_X8_partAt 1 P 0 (b_X8_partAt P) := by
  unfold b_X8_partAt
  refine sm_iload_n (pc := 0) (n := 1) dX8_partAt_0 rfl ?_
  refine sm_aload_n (pc := 1) (n := 0) dX8_partAt_1 rfl ?_
  refine sm_arraylength (pc := 2) dX8_partAt_2 ?_
  refine sm_join (pc := 3) (pc' := 13) (sbX8_partAt_13 P) (fun j13 hj13 => ?_)
  refine sm_icmp_ge (pc := 3) (tgt := 12) dX8_partAt_3 (by decide) ?_ ?_
  · skip
    refine sm_iconst (pc := 12) dX8_partAt_12 zc_i_0 ?_
    exact hj13
  · skip
    refine sm_aload_n (pc := 6) (n := 0) dX8_partAt_6 rfl ?_
    refine sm_iload_n (pc := 7) (n := 1) dX8_partAt_7 rfl ?_
    refine sm_iaload (pc := 8) dX8_partAt_8 ?_
    refine sm_goto (pc := 9) (tgt := 13) dX8_partAt_9 (by decide) ?_
    exact hj13
noncomputable def f_X8_partAt {d : Nat} : List zV → zH d → zP d → Bool := zfn 2 b_X8_partAt
theorem m_X8_partAt {d : Nat} : zMet (d := d) X_X8_partAt yX8_partAt 1 f_X8_partAt := zmet_mk (X := X_X8_partAt) (by decide) rfl rfl s_X8_partAt

