/-! the class, by program -/
abbrev X_X4_layOut : zM := (RX4, cX4_layOut, 4, none, "layOut")
noncomputable def lX4_layOut_30 {d : Nat} (P : zP d) (r30 : zK d) (r4 : zK d) : zK d := (xild 3 (xald 0 (xgfR 20 2 (xild 2 (xald1 0 (xcmp tge (xinc 2 1 r4) (xald 0 (xgfR 20 3 (xild 3 (xdup2 (xald1 0 (xpI 1 (xbin zadd (xast1 0 (fun v => v) (xinc 3 1 r30)))))))))))))))
set_option maxRecDepth 100000 in
set_option maxHeartbeats 4000000 in
theorem slX4_layOut_30 {d : Nat} [zGh] (P : zP d) (r30 : zK d) (r4 : zK d) (hr30 : zSim X_X4_layOut 1 P 30 r30) (hr4 : zSim X_X4_layOut 1 P 4 r4) : zSim X_X4_layOut 1 P 30 (lX4_layOut_30 P r30 r4) := by
  unfold lX4_layOut_30
  refine sm_iload_n (pc := 30) (n := 3) dX4_layOut_30 rfl ?_
  refine sm_aload_n (pc := 31) (n := 0) dX4_layOut_31 rfl ?_
  refine gf_X4_22 (pc := 32) rfl dX4_layOut_32 ?_
  refine sm_iload_n (pc := 35) (n := 2) dX4_layOut_35 rfl ?_
  refine sm_iaload (pc := 36) dX4_layOut_36 ?_
  refine sm_icmp_ge (pc := 37) (tgt := 56) dX4_layOut_37 (by decide) ?_ ?_
  · skip
    refine sm_iinc (pc := 56) (n := 2) dX4_layOut_56 zc_i_1 ?_
    refine sm_goto (pc := 59) (tgt := 4) dX4_layOut_59 (by decide) ?_
    exact hr4
  · skip
    refine sm_aload_n (pc := 40) (n := 0) dX4_layOut_40 rfl ?_
    refine gf_X4_26 (pc := 41) rfl dX4_layOut_41 ?_
    refine sm_iload_n (pc := 44) (n := 3) dX4_layOut_44 rfl ?_
    refine sm_dup2 (pc := 45) dX4_layOut_45 ?_
    refine sm_iaload (pc := 46) dX4_layOut_46 ?_
    refine sm_iconst (pc := 47) dX4_layOut_47 zc_i_1 ?_
    refine sm_iadd (pc := 48) dX4_layOut_48 ?_
    refine sm_iastore (pc := 49) dX4_layOut_49 ?_
    refine sm_iinc (pc := 50) (n := 3) dX4_layOut_50 zc_i_1 ?_
    refine sm_goto (pc := 53) (tgt := 30) dX4_layOut_53 (by decide) ?_
    exact hr30
noncomputable def lX4_layOut_4 {d : Nat} (P : zP d) (r4 : zK d) : zK d := (xild 2 (xald 0 (xgfI 20 1 (xcmp tge (xvret P) (xald 0 (xgfR 20 4 (xild 2 (xild 1 (xast1 0 (fun v => v) (xild 1 (xald 0 (xgfR 20 2 (xild 2 (xald1 0 (xbin zadd (xist 1 (xpI 0 (xist 3 (xloop (fun r30 => (lX4_layOut_30 P r30 r4)) 100000)))))))))))))))))))
set_option maxRecDepth 100000 in
set_option maxHeartbeats 4000000 in
theorem slX4_layOut_4 {d : Nat} [zGh] (P : zP d) (r4 : zK d) (hr4 : zSim X_X4_layOut 1 P 4 r4) : zSim X_X4_layOut 1 P 4 (lX4_layOut_4 P r4) := by
  unfold lX4_layOut_4
  refine sm_iload_n (pc := 4) (n := 2) dX4_layOut_4 rfl ?_
  refine sm_aload_n (pc := 5) (n := 0) dX4_layOut_5 rfl ?_
  refine gf_X4_13 (pc := 6) rfl dX4_layOut_6 ?_
  refine sm_icmp_ge (pc := 9) (tgt := 62) dX4_layOut_9 (by decide) ?_ ?_
  · skip
    exact sm_vreturn (pc := 62) dX4_layOut_62 rfl
  · skip
    refine sm_aload_n (pc := 12) (n := 0) dX4_layOut_12 rfl ?_
    refine gf_X4_29 (pc := 13) rfl dX4_layOut_13 ?_
    refine sm_iload_n (pc := 16) (n := 2) dX4_layOut_16 rfl ?_
    refine sm_iload_n (pc := 17) (n := 1) dX4_layOut_17 rfl ?_
    refine sm_iastore (pc := 18) dX4_layOut_18 ?_
    refine sm_iload_n (pc := 19) (n := 1) dX4_layOut_19 rfl ?_
    refine sm_aload_n (pc := 20) (n := 0) dX4_layOut_20 rfl ?_
    refine gf_X4_22 (pc := 21) rfl dX4_layOut_21 ?_
    refine sm_iload_n (pc := 24) (n := 2) dX4_layOut_24 rfl ?_
    refine sm_iaload (pc := 25) dX4_layOut_25 ?_
    refine sm_iadd (pc := 26) dX4_layOut_26 ?_
    refine sm_istore_n (pc := 27) (n := 1) dX4_layOut_27 rfl ?_
    refine sm_iconst (pc := 28) dX4_layOut_28 zc_i_0 ?_
    refine sm_istore_n (pc := 29) (n := 3) dX4_layOut_29 rfl ?_
    exact sm_loop (fun r30 hr30 => slX4_layOut_30 P r30 r4 hr30 hr4) _
noncomputable def b_X4_layOut {d : Nat} (P : zP d) : zK d := (xpI 0 (xist 1 (xpI 0 (xist 2 (xloop (fun r4 => (lX4_layOut_4 P r4)) 100000)))))
set_option maxRecDepth 100000 in
set_option maxHeartbeats 4000000 in
theorem s_X4_layOut {d : Nat} [zGh] (P : zP d) : zSim X_X4_layOut 1 P 0 (b_X4_layOut P) := by
  unfold b_X4_layOut
  refine sm_iconst (pc := 0) dX4_layOut_0 zc_i_0 ?_
  refine sm_istore_n (pc := 1) (n := 1) dX4_layOut_1 rfl ?_
  refine sm_iconst (pc := 2) dX4_layOut_2 zc_i_0 ?_
  refine sm_istore_n (pc := 3) (n := 2) dX4_layOut_3 rfl ?_
  exact sm_loop (fun r4 hr4 => slX4_layOut_4 P r4 hr4) _
noncomputable def f_X4_layOut {d : Nat} : List zV → zH d → zP d → Bool := zfn 4 b_X4_layOut
theorem m_X4_layOut {d : Nat} : zMet (d := d) X_X4_layOut yX4_layOut 1 f_X4_layOut := zmet_mk (X := X_X4_layOut) (by decide) rfl rfl s_X4_layOut

abbrev X_X4_hookAt : zM := (RX4, cX4_hookAt, 3, (some .int), "hookAt")
noncomputable def b_X4_hookAt {d : Nat} (P : zP d) : zK d := (xald 0 (xgfR 20 2 (xild 1 (xald1 0 (xild 2 (xbin zsub (xald 0 (xgfR 20 3 (xild 2 (xald1 0 (xbin zadd (xild 1 (xbin zsub (xpI 1 (xbin zsub (xiret P))))))))))))))))
set_option maxRecDepth 100000 in
set_option maxHeartbeats 4000000 in
theorem s_X4_hookAt {d : Nat} [zGh] (P : zP d) : zSim X_X4_hookAt 1 P 0 (b_X4_hookAt P) := by
  unfold b_X4_hookAt
  refine sm_aload_n (pc := 0) (n := 0) dX4_hookAt_0 rfl ?_
  refine gf_X4_22 (pc := 1) rfl dX4_hookAt_1 ?_
  refine sm_iload_n (pc := 4) (n := 1) dX4_hookAt_4 rfl ?_
  refine sm_iaload (pc := 5) dX4_hookAt_5 ?_
  refine sm_iload_n (pc := 6) (n := 2) dX4_hookAt_6 rfl ?_
  refine sm_isub (pc := 7) dX4_hookAt_7 ?_
  refine sm_aload_n (pc := 8) (n := 0) dX4_hookAt_8 rfl ?_
  refine gf_X4_26 (pc := 9) rfl dX4_hookAt_9 ?_
  refine sm_iload_n (pc := 12) (n := 2) dX4_hookAt_12 rfl ?_
  refine sm_iaload (pc := 13) dX4_hookAt_13 ?_
  refine sm_iadd (pc := 14) dX4_hookAt_14 ?_
  refine sm_iload_n (pc := 15) (n := 1) dX4_hookAt_15 rfl ?_
  refine sm_isub (pc := 16) dX4_hookAt_16 ?_
  refine sm_iconst (pc := 17) dX4_hookAt_17 zc_i_1 ?_
  refine sm_isub (pc := 18) dX4_hookAt_18 ?_
  exact sm_ireturn (pc := 19) dX4_hookAt_19 rfl
noncomputable def f_X4_hookAt {d : Nat} : List zV → zH d → zP d → Bool := zfn 3 b_X4_hookAt
theorem m_X4_hookAt {d : Nat} : zMet (d := d) X_X4_hookAt yX4_hookAt 1 f_X4_hookAt := zmet_mk (X := X_X4_hookAt) (by decide) rfl rfl s_X4_hookAt

abbrev X_X4_hasCell : zM := (RX4, cX4_hasCell, 3, (some .boolean), "hasCell")
noncomputable def bX4_hasCell_31 {d : Nat} (P : zP d) : zK d := (xzret P)
set_option maxRecDepth 100000 in
set_option maxHeartbeats 4000000 in
theorem sbX4_hasCell_31 {d : Nat} [zGh] (P : zP d) : zSim X_X4_hasCell 1 P 31 (bX4_hasCell_31 P) := by
  unfold bX4_hasCell_31
  exact sm_zreturn (pc := 31) dX4_hasCell_31 rfl
noncomputable def bX4_hasCell_30 {d : Nat} (P : zP d) (j31 : zK d) : zK d := (xpI 0 j31)
set_option maxRecDepth 100000 in
set_option maxHeartbeats 4000000 in
theorem sbX4_hasCell_30 {d : Nat} [zGh] (P : zP d) (j31 : zK d) (hj31 : zSim X_X4_hasCell 1 P 31 j31) : zSim X_X4_hasCell 1 P 30 (bX4_hasCell_30 P j31) := by
  unfold bX4_hasCell_30
  refine sm_iconst (pc := 30) dX4_hasCell_30 zc_i_0 ?_
  exact hj31
noncomputable def b_X4_hasCell {d : Nat} (P : zP d) : zK d := (xild 1 (xjoin (bX4_hasCell_31 P) (fun j31 => (xjoin (bX4_hasCell_30 P j31) (fun j30 => (xif0 t0ge (xild 1 (xald 0 (xgfI 20 1 (xcmp tge j30 (xild 2 (xif0 t0ge (xild 2 (xald 0 (xgfR 20 2 (xild 1 (xald1 0 (xcmp tge j30 (xpI 1 j31))))))) j30)))))) j30))))))
set_option maxRecDepth 100000 in
set_option maxHeartbeats 4000000 in
theorem s_X4_hasCell {d : Nat} [zGh] (P : zP d) : zSim X_X4_hasCell 1 P 0 (b_X4_hasCell P) := by
  unfold b_X4_hasCell
  refine sm_iload_n (pc := 0) (n := 1) dX4_hasCell_0 rfl ?_
  refine sm_join (pc := 1) (pc' := 31) (sbX4_hasCell_31 P) (fun j31 hj31 => ?_)
  refine sm_join (pc := 1) (pc' := 30) (sbX4_hasCell_30 P j31 hj31) (fun j30 hj30 => ?_)
  refine sm_if_lt (pc := 1) (tgt := 30) dX4_hasCell_1 (by decide) ?_ ?_
  · skip
    exact hj30
  · skip
    refine sm_iload_n (pc := 4) (n := 1) dX4_hasCell_4 rfl ?_
    refine sm_aload_n (pc := 5) (n := 0) dX4_hasCell_5 rfl ?_
    refine gf_X4_13 (pc := 6) rfl dX4_hasCell_6 ?_
    refine sm_icmp_ge (pc := 9) (tgt := 30) dX4_hasCell_9 (by decide) ?_ ?_
    · skip
      exact hj30
    · skip
      refine sm_iload_n (pc := 12) (n := 2) dX4_hasCell_12 rfl ?_
      refine sm_if_lt (pc := 13) (tgt := 30) dX4_hasCell_13 (by decide) ?_ ?_
      · skip
        exact hj30
      · skip
        refine sm_iload_n (pc := 16) (n := 2) dX4_hasCell_16 rfl ?_
        refine sm_aload_n (pc := 17) (n := 0) dX4_hasCell_17 rfl ?_
        refine gf_X4_22 (pc := 18) rfl dX4_hasCell_18 ?_
        refine sm_iload_n (pc := 21) (n := 1) dX4_hasCell_21 rfl ?_
        refine sm_iaload (pc := 22) dX4_hasCell_22 ?_
        refine sm_icmp_ge (pc := 23) (tgt := 30) dX4_hasCell_23 (by decide) ?_ ?_
        · skip
          exact hj30
        · skip
          refine sm_iconst (pc := 26) dX4_hasCell_26 zc_i_1 ?_
          refine sm_goto (pc := 27) (tgt := 31) dX4_hasCell_27 (by decide) ?_
          exact hj31
noncomputable def f_X4_hasCell {d : Nat} : List zV → zH d → zP d → Bool := zfn 3 b_X4_hasCell
theorem m_X4_hasCell {d : Nat} : zMet (d := d) X_X4_hasCell yX4_hasCell 1 f_X4_hasCell := zmet_mk (X := X_X4_hasCell) (by decide) rfl rfl s_X4_hasCell

abbrev X_X4_countTableaux : zM := (RX4, cX4_countTableaux, 4, (some .int), "countTableaux")
noncomputable def bX4_countTableaux_62 {d : Nat} (P : zP d) : zK d := (xiret P)
set_option maxRecDepth 100000 in
set_option maxHeartbeats 4000000 in
theorem sbX4_countTableaux_62 {d : Nat} [zGh] (P : zP d) : zSim X_X4_countTableaux 2 P 62 (bX4_countTableaux_62 P) := by
  unfold bX4_countTableaux_62
  exact sm_ireturn (pc := 62) dX4_countTableaux_62 rfl
noncomputable def lX4_countTableaux_14 {d : Nat} (P : zP d) (r14 : zK d) (r4 : zK d) : zK d := (xild 3 (xald 0 (xgfR 20 2 (xild 2 (xald1 0 (xcmp tge (xinc 2 1 r4) (xild 1 (xald 0 (xild 2 (xild 3 (xcV 20 3 0 0 f_X4_hookAt (xbin zmul (xist 1 (xinc 3 1 r14))))))))))))))
set_option maxRecDepth 100000 in
set_option maxHeartbeats 4000000 in
theorem slX4_countTableaux_14 {d : Nat} [zGh] (P : zP d) (r14 : zK d) (r4 : zK d) (hr14 : zSim X_X4_countTableaux 2 P 14 r14) (hr4 : zSim X_X4_countTableaux 2 P 4 r4) : zSim X_X4_countTableaux 2 P 14 (lX4_countTableaux_14 P r14 r4) := by
  unfold lX4_countTableaux_14
  refine sm_iload_n (pc := 14) (n := 3) dX4_countTableaux_14 rfl ?_
  refine sm_aload_n (pc := 15) (n := 0) dX4_countTableaux_15 rfl ?_
  refine gf_X4_22 (pc := 16) rfl dX4_countTableaux_16 ?_
  refine sm_iload_n (pc := 19) (n := 2) dX4_countTableaux_19 rfl ?_
  refine sm_iaload (pc := 20) dX4_countTableaux_20 ?_
  refine sm_icmp_ge (pc := 21) (tgt := 39) dX4_countTableaux_21 (by decide) ?_ ?_
  · skip
    refine sm_iinc (pc := 39) (n := 2) dX4_countTableaux_39 zc_i_1 ?_
    refine sm_goto (pc := 42) (tgt := 4) dX4_countTableaux_42 (by decide) ?_
    exact hr4
  · skip
    refine sm_iload_n (pc := 24) (n := 1) dX4_countTableaux_24 rfl ?_
    refine sm_aload_n (pc := 25) (n := 0) dX4_countTableaux_25 rfl ?_
    refine sm_iload_n (pc := 26) (n := 2) dX4_countTableaux_26 rfl ?_
    refine sm_iload_n (pc := 27) (n := 3) dX4_countTableaux_27 rfl ?_
    refine sm_cV (pc := 28) (ci := 4) (n := 3) (mc := 0) (ms := 0) rfl m_X4_hookAt (cr_X4_92 (X := X_X4_countTableaux) (fr := 2) (frc := 1) (pc := 28) (mc := 0) (ms := 0) rfl (by decide) dX4_countTableaux_28) ?_
    refine sm_imul (pc := 31) dX4_countTableaux_31 ?_
    refine sm_istore_n (pc := 32) (n := 1) dX4_countTableaux_32 rfl ?_
    refine sm_iinc (pc := 33) (n := 3) dX4_countTableaux_33 zc_i_1 ?_
    refine sm_goto (pc := 36) (tgt := 14) dX4_countTableaux_36 (by decide) ?_
    exact hr14
noncomputable def lX4_countTableaux_4 {d : Nat} (P : zP d) (r4 : zK d) : zK d := (xild 2 (xald 0 (xgfI 20 1 (xcmp tge (xild 1 (xjoin (bX4_countTableaux_62 P) (fun j62 => (xif0 t0le (xpI 0 j62) (xald 0 (xgfI 20 0 (xcS 1 0 0 f_X8_factorialOf (xild 1 (xbinN zdiv j62))))))))) (xpI 0 (xist 3 (xloop (fun r14 => (lX4_countTableaux_14 P r14 r4)) 100000)))))))
set_option maxRecDepth 100000 in
set_option maxHeartbeats 4000000 in
theorem slX4_countTableaux_4 {d : Nat} [zGh] (P : zP d) (r4 : zK d) (hr4 : zSim X_X4_countTableaux 2 P 4 r4) : zSim X_X4_countTableaux 2 P 4 (lX4_countTableaux_4 P r4) := by
  unfold lX4_countTableaux_4
  refine sm_iload_n (pc := 4) (n := 2) dX4_countTableaux_4 rfl ?_
  refine sm_aload_n (pc := 5) (n := 0) dX4_countTableaux_5 rfl ?_
  refine gf_X4_13 (pc := 6) rfl dX4_countTableaux_6 ?_
  refine sm_icmp_ge (pc := 9) (tgt := 45) dX4_countTableaux_9 (by decide) ?_ ?_
  · skip
    refine sm_iload_n (pc := 45) (n := 1) dX4_countTableaux_45 rfl ?_
    refine sm_join (pc := 46) (pc' := 62) (sbX4_countTableaux_62 P) (fun j62 hj62 => ?_)
    refine sm_if_le (pc := 46) (tgt := 61) dX4_countTableaux_46 (by decide) ?_ ?_
    · skip
      refine sm_iconst (pc := 61) dX4_countTableaux_61 zc_i_0 ?_
      exact hj62
    · skip
      refine sm_aload_n (pc := 49) (n := 0) dX4_countTableaux_49 rfl ?_
      refine gf_X4_7 (pc := 50) rfl dX4_countTableaux_50 ?_
      refine sm_cS (pc := 53) (n := 1) (mc := 0) (ms := 0) m_X8_factorialOf (cr_X4_96 (X := X_X4_countTableaux) (fr := 2) (frc := 1) (pc := 53) (mc := 0) (ms := 0) rfl (by decide) dX4_countTableaux_53) ?_
      refine sm_iload_n (pc := 56) (n := 1) dX4_countTableaux_56 rfl ?_
      refine sm_idiv (pc := 57) dX4_countTableaux_57 ?_
      refine sm_goto (pc := 58) (tgt := 62) dX4_countTableaux_58 (by decide) ?_
      exact hj62
  · skip
    refine sm_iconst (pc := 12) dX4_countTableaux_12 zc_i_0 ?_
    refine sm_istore_n (pc := 13) (n := 3) dX4_countTableaux_13 rfl ?_
    exact sm_loop (fun r14 hr14 => slX4_countTableaux_14 P r14 r4 hr14 hr4) _
noncomputable def b_X4_countTableaux {d : Nat} (P : zP d) : zK d := (xpI 1 (xist 1 (xpI 0 (xist 2 (xloop (fun r4 => (lX4_countTableaux_4 P r4)) 100000)))))
set_option maxRecDepth 100000 in
set_option maxHeartbeats 4000000 in
theorem s_X4_countTableaux {d : Nat} [zGh] (P : zP d) : zSim X_X4_countTableaux 2 P 0 (b_X4_countTableaux P) := by
  unfold b_X4_countTableaux
  refine sm_iconst (pc := 0) dX4_countTableaux_0 zc_i_1 ?_
  refine sm_istore_n (pc := 1) (n := 1) dX4_countTableaux_1 rfl ?_
  refine sm_iconst (pc := 2) dX4_countTableaux_2 zc_i_0 ?_
  refine sm_istore_n (pc := 3) (n := 2) dX4_countTableaux_3 rfl ?_
  exact sm_loop (fun r4 hr4 => slX4_countTableaux_4 P r4 hr4) _
noncomputable def f_X4_countTableaux {d : Nat} : List zV → zH d → zP d → Bool := zfn 4 b_X4_countTableaux
theorem m_X4_countTableaux {d : Nat} : zMet (d := d) X_X4_countTableaux yX4_countTableaux 2 f_X4_countTableaux := zmet_mk (X := X_X4_countTableaux) (by decide) rfl rfl s_X4_countTableaux

abbrev X_X4_countWays : zM := (RX4, cX4_countWays, 3, (some .int), "countWays")
noncomputable def lX4_countWays_4 {d : Nat} (P : zP d) (r4 : zK d) : zK d := (xild 2 (xald 0 (xgfR 20 3 (xlen (xcmp tge (xild 1 (xiret P)) (xild 1 (xald 0 (xgfR 20 3 (xild 2 (xald1 0 (xcS 1 0 0 f_X8_factorialOf (xbin zmul (xist 1 (xinc 2 1 r4))))))))))))))
set_option maxRecDepth 100000 in
set_option maxHeartbeats 4000000 in
theorem slX4_countWays_4 {d : Nat} [zGh] (P : zP d) (r4 : zK d) (hr4 : zSim X_X4_countWays 2 P 4 r4) : zSim X_X4_countWays 2 P 4 (lX4_countWays_4 P r4) := by
  unfold lX4_countWays_4
  refine sm_iload_n (pc := 4) (n := 2) dX4_countWays_4 rfl ?_
  refine sm_aload_n (pc := 5) (n := 0) dX4_countWays_5 rfl ?_
  refine gf_X4_26 (pc := 6) rfl dX4_countWays_6 ?_
  refine sm_arraylength (pc := 9) dX4_countWays_9 ?_
  refine sm_icmp_ge (pc := 10) (tgt := 31) dX4_countWays_10 (by decide) ?_ ?_
  · skip
    refine sm_iload_n (pc := 31) (n := 1) dX4_countWays_31 rfl ?_
    exact sm_ireturn (pc := 32) dX4_countWays_32 rfl
  · skip
    refine sm_iload_n (pc := 13) (n := 1) dX4_countWays_13 rfl ?_
    refine sm_aload_n (pc := 14) (n := 0) dX4_countWays_14 rfl ?_
    refine gf_X4_26 (pc := 15) rfl dX4_countWays_15 ?_
    refine sm_iload_n (pc := 18) (n := 2) dX4_countWays_18 rfl ?_
    refine sm_iaload (pc := 19) dX4_countWays_19 ?_
    refine sm_cS (pc := 20) (n := 1) (mc := 0) (ms := 0) m_X8_factorialOf (cr_X4_96 (X := X_X4_countWays) (fr := 2) (frc := 1) (pc := 20) (mc := 0) (ms := 0) rfl (by decide) dX4_countWays_20) ?_
    refine sm_imul (pc := 23) dX4_countWays_23 ?_
    refine sm_istore_n (pc := 24) (n := 1) dX4_countWays_24 rfl ?_
    refine sm_iinc (pc := 25) (n := 2) dX4_countWays_25 zc_i_1 ?_
    refine sm_goto (pc := 28) (tgt := 4) dX4_countWays_28 (by decide) ?_
    exact hr4
noncomputable def b_X4_countWays {d : Nat} (P : zP d) : zK d := (xpI 1 (xist 1 (xpI 0 (xist 2 (xloop (fun r4 => (lX4_countWays_4 P r4)) 100000)))))
set_option maxRecDepth 100000 in
set_option maxHeartbeats 4000000 in
theorem s_X4_countWays {d : Nat} [zGh] (P : zP d) : zSim X_X4_countWays 2 P 0 (b_X4_countWays P) := by
  unfold b_X4_countWays
  refine sm_iconst (pc := 0) dX4_countWays_0 zc_i_1 ?_
  refine sm_istore_n (pc := 1) (n := 1) dX4_countWays_1 rfl ?_
  refine sm_iconst (pc := 2) dX4_countWays_2 zc_i_0 ?_
  refine sm_istore_n (pc := 3) (n := 2) dX4_countWays_3 rfl ?_
  exact sm_loop (fun r4 hr4 => slX4_countWays_4 P r4 hr4) _
noncomputable def f_X4_countWays {d : Nat} : List zV → zH d → zP d → Bool := zfn 3 b_X4_countWays
theorem m_X4_countWays {d : Nat} : zMet (d := d) X_X4_countWays yX4_countWays 2 f_X4_countWays := zmet_mk (X := X_X4_countWays) (by decide) rfl rfl s_X4_countWays

abbrev X_X4_fillTableaux : zM := (RX4, cX4_fillTableaux, 7, none, "fillTableaux")
noncomputable def bX4_fillTableaux_201 {d : Nat} (self : List zV → zH d → zP d → Bool) (P : zP d) (r130 : zK d) : zK d := (xinc 6 1 r130)
set_option maxRecDepth 100000 in
set_option maxHeartbeats 4000000 in
theorem sbX4_fillTableaux_201 {d : Nat} [zGh] (n : Nat) (self : List zV → zH d → zP d → Bool) (hself : zMet X_X4_fillTableaux yX4_fillTableaux (1 + n) self) (P : zP d) (r130 : zK d) (hr130 : zSim X_X4_fillTableaux (1 + (n + 1)) P 130 r130) : zSim X_X4_fillTableaux (1 + (n + 1)) P 201 (bX4_fillTableaux_201 self P r130) := by
  unfold bX4_fillTableaux_201
  refine sm_iinc (pc := 201) (n := 6) dX4_fillTableaux_201 zc_i_1 ?_
  refine sm_goto (pc := 204) (tgt := 130) dX4_fillTableaux_204 (by decide) ?_
  exact hr130
noncomputable def bX4_fillTableaux_190 {d : Nat} (self : List zV → zH d → zP d → Bool) (P : zP d) (j201 : zK d) : zK d := (xcV 20 3 0 0 self (xald 0 (xgfR 20 15 (xild 6 (xpI 0 (xast1 0 (fun v => v) j201))))))
set_option maxRecDepth 100000 in
set_option maxHeartbeats 4000000 in
theorem sbX4_fillTableaux_190 {d : Nat} [zGh] (n : Nat) (self : List zV → zH d → zP d → Bool) (hself : zMet X_X4_fillTableaux yX4_fillTableaux (1 + n) self) (P : zP d) (j201 : zK d) (hj201 : zSim X_X4_fillTableaux (1 + (n + 1)) P 201 j201) : zSim X_X4_fillTableaux (1 + (n + 1)) P 190 (bX4_fillTableaux_190 self P j201) := by
  unfold bX4_fillTableaux_190
  refine sm_cV (pc := 190) (ci := 4) (n := 3) (mc := 0) (ms := 0) rfl hself (cr_X4_53 (X := X_X4_fillTableaux) (fr := 1 + (n + 1)) (frc := 1 + n) (pc := 190) (mc := 0) (ms := 0) rfl (by omega) dX4_fillTableaux_190) ?_
  refine sm_aload_n (pc := 193) (n := 0) dX4_fillTableaux_193 rfl ?_
  refine gf_X4_45 (pc := 194) rfl dX4_fillTableaux_194 ?_
  refine sm_iload (pc := 197) (n := 6) dX4_fillTableaux_197 ?_
  refine sm_iconst (pc := 199) dX4_fillTableaux_199 zc_i_0 ?_
  refine sm_iastore (pc := 200) dX4_fillTableaux_200 ?_
  exact hj201
noncomputable def bX4_fillTableaux_178 {d : Nat} (self : List zV → zH d → zP d → Bool) (P : zP d) (j201 : zK d) : zK d := (xild 5 (xjoin (bX4_fillTableaux_190 self P j201) (fun j190 => (xif0 t0eq (xild 2 (xpI 1 (xbin zadd j190))) (xpI 0 j190)))))
set_option maxRecDepth 100000 in
set_option maxHeartbeats 4000000 in
theorem sbX4_fillTableaux_178 {d : Nat} [zGh] (n : Nat) (self : List zV → zH d → zP d → Bool) (hself : zMet X_X4_fillTableaux yX4_fillTableaux (1 + n) self) (P : zP d) (j201 : zK d) (hj201 : zSim X_X4_fillTableaux (1 + (n + 1)) P 201 j201) : zSim X_X4_fillTableaux (1 + (n + 1)) P 178 (bX4_fillTableaux_178 self P j201) := by
  unfold bX4_fillTableaux_178
  refine sm_iload (pc := 178) (n := 5) dX4_fillTableaux_178 ?_
  refine sm_join (pc := 180) (pc' := 190) (sbX4_fillTableaux_190 n self hself P j201 hj201) (fun j190 hj190 => ?_)
  refine sm_if_eq (pc := 180) (tgt := 187) dX4_fillTableaux_180 (by decide) ?_ ?_
  · skip
    refine sm_iload_n (pc := 187) (n := 2) dX4_fillTableaux_187 rfl ?_
    refine sm_iconst (pc := 188) dX4_fillTableaux_188 zc_i_1 ?_
    refine sm_iadd (pc := 189) dX4_fillTableaux_189 ?_
    exact hj190
  · skip
    refine sm_iconst (pc := 183) dX4_fillTableaux_183 zc_i_0 ?_
    refine sm_goto (pc := 184) (tgt := 190) dX4_fillTableaux_184 (by decide) ?_
    exact hj190
noncomputable def cX4_fillTableaux_173 {d : Nat} (self : List zV → zH d → zP d → Bool) (P : zP d) (j178 : zK d) : zK d := (xbin zadd j178)
set_option maxRecDepth 100000 in
set_option maxHeartbeats 4000000 in
theorem scX4_fillTableaux_173 {d : Nat} [zGh] (n : Nat) (self : List zV → zH d → zP d → Bool) (hself : zMet X_X4_fillTableaux yX4_fillTableaux (1 + n) self) (P : zP d) (j178 : zK d) (hj178 : zSim X_X4_fillTableaux (1 + (n + 1)) P 178 j178) : zSim X_X4_fillTableaux (1 + (n + 1)) P 173 (cX4_fillTableaux_173 self P j178) := by
  unfold cX4_fillTableaux_173
  refine sm_iadd (pc := 173) dX4_fillTableaux_173 ?_
  refine sm_goto (pc := 174) (tgt := 178) dX4_fillTableaux_174 (by decide) ?_
  exact hj178
noncomputable def lX4_fillTableaux_130 {d : Nat} (self : List zV → zH d → zP d → Bool) (P : zP d) (r130 : zK d) : zK d := (xild 6 (xald 0 (xgfI 20 0 (xcmp tle (xald 0 (xgfR 20 15 (xild 6 (xald1 0 (xjoin (bX4_fillTableaux_201 self P r130) (fun j201 => (xif0 t0eq (xald 0 (xgfR 20 15 (xild 6 (xpI 1 (xast1 0 (fun v => v) (xald 0 (xgfR 20 14 (xild 3 (xild 6 (xast1 0 (fun v => v) (xald 0 (xild 5 (xjoin (bX4_fillTableaux_178 self P j201) (fun j178 => (xif0 t0eq (xild 1 j178) (xild 1 (xpI 1 (cX4_fillTableaux_173 self P j178)))))))))))))))))) j201))))))) (xvret P)))))
set_option maxRecDepth 100000 in
set_option maxHeartbeats 4000000 in
theorem slX4_fillTableaux_130 {d : Nat} [zGh] (n : Nat) (self : List zV → zH d → zP d → Bool) (hself : zMet X_X4_fillTableaux yX4_fillTableaux (1 + n) self) (P : zP d) (r130 : zK d) (hr130 : zSim X_X4_fillTableaux (1 + (n + 1)) P 130 r130) : zSim X_X4_fillTableaux (1 + (n + 1)) P 130 (lX4_fillTableaux_130 self P r130) := by
  unfold lX4_fillTableaux_130
  refine sm_iload (pc := 130) (n := 6) dX4_fillTableaux_130 ?_
  refine sm_aload_n (pc := 132) (n := 0) dX4_fillTableaux_132 rfl ?_
  refine gf_X4_7 (pc := 133) rfl dX4_fillTableaux_133 ?_
  refine sm_icmp_gt (pc := 136) (tgt := 207) dX4_fillTableaux_136 (by decide) ?_ ?_
  · skip
    exact sm_vreturn (pc := 207) dX4_fillTableaux_207 rfl
  · skip
    refine sm_aload_n (pc := 139) (n := 0) dX4_fillTableaux_139 rfl ?_
    refine gf_X4_45 (pc := 140) rfl dX4_fillTableaux_140 ?_
    refine sm_iload (pc := 143) (n := 6) dX4_fillTableaux_143 ?_
    refine sm_iaload (pc := 145) dX4_fillTableaux_145 ?_
    refine sm_join (pc := 146) (pc' := 201) (sbX4_fillTableaux_201 n self hself P r130 hr130) (fun j201 hj201 => ?_)
    refine sm_if_ne (pc := 146) (tgt := 201) dX4_fillTableaux_146 (by decide) ?_ ?_
    · skip
      exact hj201
    · skip
      refine sm_aload_n (pc := 149) (n := 0) dX4_fillTableaux_149 rfl ?_
      refine gf_X4_45 (pc := 150) rfl dX4_fillTableaux_150 ?_
      refine sm_iload (pc := 153) (n := 6) dX4_fillTableaux_153 ?_
      refine sm_iconst (pc := 155) dX4_fillTableaux_155 zc_i_1 ?_
      refine sm_iastore (pc := 156) dX4_fillTableaux_156 ?_
      refine sm_aload_n (pc := 157) (n := 0) dX4_fillTableaux_157 rfl ?_
      refine gf_X4_42 (pc := 158) rfl dX4_fillTableaux_158 ?_
      refine sm_iload_n (pc := 161) (n := 3) dX4_fillTableaux_161 rfl ?_
      refine sm_iload (pc := 162) (n := 6) dX4_fillTableaux_162 ?_
      refine sm_iastore (pc := 164) dX4_fillTableaux_164 ?_
      refine sm_aload_n (pc := 165) (n := 0) dX4_fillTableaux_165 rfl ?_
      refine sm_iload (pc := 166) (n := 5) dX4_fillTableaux_166 ?_
      refine sm_join (pc := 168) (pc' := 178) (sbX4_fillTableaux_178 n self hself P j201 hj201) (fun j178 hj178 => ?_)
      refine sm_if_eq (pc := 168) (tgt := 177) dX4_fillTableaux_168 (by decide) ?_ ?_
      · skip
        refine sm_iload_n (pc := 177) (n := 1) dX4_fillTableaux_177 rfl ?_
        exact hj178
      · skip
        refine sm_iload_n (pc := 171) (n := 1) dX4_fillTableaux_171 rfl ?_
        refine sm_iconst (pc := 172) dX4_fillTableaux_172 zc_i_1 ?_
        exact scX4_fillTableaux_173 n self hself P j178 hj178
noncomputable def bX4_fillTableaux_122 {d : Nat} (self : List zV → zH d → zP d → Bool) (P : zP d) : zK d := (xist 5 (xild 4 (xpI 1 (xbin zadd (xist 6 (xloop (fun r130 => (lX4_fillTableaux_130 self P r130)) 100000))))))
set_option maxRecDepth 100000 in
set_option maxHeartbeats 4000000 in
theorem sbX4_fillTableaux_122 {d : Nat} [zGh] (n : Nat) (self : List zV → zH d → zP d → Bool) (hself : zMet X_X4_fillTableaux yX4_fillTableaux (1 + n) self) (P : zP d) : zSim X_X4_fillTableaux (1 + (n + 1)) P 122 (bX4_fillTableaux_122 self P) := by
  unfold bX4_fillTableaux_122
  refine sm_istore (pc := 122) (n := 5) dX4_fillTableaux_122 ?_
  refine sm_iload (pc := 124) (n := 4) dX4_fillTableaux_124 ?_
  refine sm_iconst (pc := 126) dX4_fillTableaux_126 zc_i_1 ?_
  refine sm_iadd (pc := 127) dX4_fillTableaux_127 ?_
  refine sm_istore (pc := 128) (n := 6) dX4_fillTableaux_128 ?_
  exact sm_loop (fun r130 hr130 => slX4_fillTableaux_130 n self hself P r130 hr130) _
noncomputable def bX4_fillTableaux_105 {d : Nat} (self : List zV → zH d → zP d → Bool) (P : zP d) : zK d := (xild 2 (xpI 1 (xbin zadd (xald 0 (xgfR 20 2 (xild 1 (xald1 0 (xjoin (bX4_fillTableaux_122 self P) (fun j122 => (xcmp Nat.beq (xpI 1 j122) (xpI 0 j122)))))))))))
set_option maxRecDepth 100000 in
set_option maxHeartbeats 4000000 in
theorem sbX4_fillTableaux_105 {d : Nat} [zGh] (n : Nat) (self : List zV → zH d → zP d → Bool) (hself : zMet X_X4_fillTableaux yX4_fillTableaux (1 + n) self) (P : zP d) : zSim X_X4_fillTableaux (1 + (n + 1)) P 105 (bX4_fillTableaux_105 self P) := by
  unfold bX4_fillTableaux_105
  refine sm_iload_n (pc := 105) (n := 2) dX4_fillTableaux_105 rfl ?_
  refine sm_iconst (pc := 106) dX4_fillTableaux_106 zc_i_1 ?_
  refine sm_iadd (pc := 107) dX4_fillTableaux_107 ?_
  refine sm_aload_n (pc := 108) (n := 0) dX4_fillTableaux_108 rfl ?_
  refine gf_X4_22 (pc := 109) rfl dX4_fillTableaux_109 ?_
  refine sm_iload_n (pc := 112) (n := 1) dX4_fillTableaux_112 rfl ?_
  refine sm_iaload (pc := 113) dX4_fillTableaux_113 ?_
  refine sm_join (pc := 114) (pc' := 122) (sbX4_fillTableaux_122 n self hself P) (fun j122 hj122 => ?_)
  refine sm_icmp_ne (pc := 114) (tgt := 121) dX4_fillTableaux_114 (by decide) ?_ ?_
  · skip
    refine sm_iconst (pc := 121) dX4_fillTableaux_121 zc_i_0 ?_
    exact hj122
  · skip
    refine sm_iconst (pc := 117) dX4_fillTableaux_117 zc_i_1 ?_
    refine sm_goto (pc := 118) (tgt := 122) dX4_fillTableaux_118 (by decide) ?_
    exact hj122
noncomputable def bX4_fillTableaux_77 {d : Nat} (self : List zV → zH d → zP d → Bool) (P : zP d) : zK d := (xist 4 (xild 1 (xjoin (bX4_fillTableaux_105 self P) (fun j105 => (xif0 t0le j105 (xild 4 (xald 0 (xgfR 20 14 (xald 0 (xgfR 20 4 (xild 1 (xpI 1 (xbin zsub (xald1 0 (xild 2 (xbin zadd (xald1 0 (xmm zmax (xist 4 j105)))))))))))))))))))
set_option maxRecDepth 100000 in
set_option maxHeartbeats 4000000 in
theorem sbX4_fillTableaux_77 {d : Nat} [zGh] (n : Nat) (self : List zV → zH d → zP d → Bool) (hself : zMet X_X4_fillTableaux yX4_fillTableaux (1 + n) self) (P : zP d) : zSim X_X4_fillTableaux (1 + (n + 1)) P 77 (bX4_fillTableaux_77 self P) := by
  unfold bX4_fillTableaux_77
  refine sm_istore (pc := 77) (n := 4) dX4_fillTableaux_77 ?_
  refine sm_iload_n (pc := 79) (n := 1) dX4_fillTableaux_79 rfl ?_
  refine sm_join (pc := 80) (pc' := 105) (sbX4_fillTableaux_105 n self hself P) (fun j105 hj105 => ?_)
  refine sm_if_le (pc := 80) (tgt := 105) dX4_fillTableaux_80 (by decide) ?_ ?_
  · skip
    exact hj105
  · skip
    refine sm_iload (pc := 83) (n := 4) dX4_fillTableaux_83 ?_
    refine sm_aload_n (pc := 85) (n := 0) dX4_fillTableaux_85 rfl ?_
    refine gf_X4_42 (pc := 86) rfl dX4_fillTableaux_86 ?_
    refine sm_aload_n (pc := 89) (n := 0) dX4_fillTableaux_89 rfl ?_
    refine gf_X4_29 (pc := 90) rfl dX4_fillTableaux_90 ?_
    refine sm_iload_n (pc := 93) (n := 1) dX4_fillTableaux_93 rfl ?_
    refine sm_iconst (pc := 94) dX4_fillTableaux_94 zc_i_1 ?_
    refine sm_isub (pc := 95) dX4_fillTableaux_95 ?_
    refine sm_iaload (pc := 96) dX4_fillTableaux_96 ?_
    refine sm_iload_n (pc := 97) (n := 2) dX4_fillTableaux_97 rfl ?_
    refine sm_iadd (pc := 98) dX4_fillTableaux_98 ?_
    refine sm_iaload (pc := 99) dX4_fillTableaux_99 ?_
    refine sm_mmax (pc := 100) wd_103 wd_104 wd_6 wd_105 (by omega) dX4_fillTableaux_100 ?_
    refine sm_istore (pc := 103) (n := 4) dX4_fillTableaux_103 ?_
    exact hj105
noncomputable def bX4_fillTableaux_51 {d : Nat} (self : List zV → zH d → zP d → Bool) (P : zP d) : zK d := (xvret P)
set_option maxRecDepth 100000 in
set_option maxHeartbeats 4000000 in
theorem sbX4_fillTableaux_51 {d : Nat} [zGh] (n : Nat) (self : List zV → zH d → zP d → Bool) (hself : zMet X_X4_fillTableaux yX4_fillTableaux (1 + n) self) (P : zP d) : zSim X_X4_fillTableaux (1 + (n + 1)) P 51 (bX4_fillTableaux_51 self P) := by
  unfold bX4_fillTableaux_51
  exact sm_vreturn (pc := 51) dX4_fillTableaux_51 rfl
noncomputable def cX4_fillTableaux_46 {d : Nat} (self : List zV → zH d → zP d → Bool) (P : zP d) (j51 : zK d) : zK d := (xpI 1 (xbin zadd (xpfI 20 13 j51)))
set_option maxRecDepth 100000 in
set_option maxHeartbeats 4000000 in
theorem scX4_fillTableaux_46 {d : Nat} [zGh] (n : Nat) (self : List zV → zH d → zP d → Bool) (hself : zMet X_X4_fillTableaux yX4_fillTableaux (1 + n) self) (P : zP d) (j51 : zK d) (hj51 : zSim X_X4_fillTableaux (1 + (n + 1)) P 51 j51) : zSim X_X4_fillTableaux (1 + (n + 1)) P 46 (cX4_fillTableaux_46 self P j51) := by
  unfold cX4_fillTableaux_46
  refine sm_iconst (pc := 46) dX4_fillTableaux_46 zc_i_1 ?_
  refine sm_iadd (pc := 47) dX4_fillTableaux_47 ?_
  refine pf_X4_69 (pc := 48) rfl dX4_fillTableaux_48 ?_
  exact hj51
noncomputable def b_X4_fillTableaux {d : Nat} (self : List zV → zH d → zP d → Bool) (P : zP d) : zK d := (xild 1 (xald 0 (xgfI 20 1 (xcmp tge (xald 0 (xgfI 20 13 (xald 0 (xgfI 20 5 (xjoin (bX4_fillTableaux_51 self P) (fun j51 => (xcmp tge j51 (xald 0 (xgfR 20 14 (xpI 0 (xald 0 (xgfR 20 6 (xald 0 (xgfI 20 13 (xaal (xpI 0 (xald 0 (xgfI 20 0 (xcpy 0 40 (xald 0 (xdup (xgfI 20 13 (cX4_fillTableaux_46 self P j51))))))))))))))))))))))) (xald 0 (xgfR 20 4 (xild 1 (xald1 0 (xild 2 (xbin zadd (xist 3 (xild 2 (xjoin (bX4_fillTableaux_77 self P) (fun j77 => (xif0 t0le (xpI 0 j77) (xald 0 (xgfR 20 14 (xild 3 (xpI 1 (xbin zsub (xald1 0 j77)))))))))))))))))))))
set_option maxRecDepth 100000 in
set_option maxHeartbeats 4000000 in
theorem s_X4_fillTableaux {d : Nat} [zGh] (n : Nat) (self : List zV → zH d → zP d → Bool) (hself : zMet X_X4_fillTableaux yX4_fillTableaux (1 + n) self) (P : zP d) : zSim X_X4_fillTableaux (1 + (n + 1)) P 0 (b_X4_fillTableaux self P) := by
  unfold b_X4_fillTableaux
  refine sm_iload_n (pc := 0) (n := 1) dX4_fillTableaux_0 rfl ?_
  refine sm_aload_n (pc := 1) (n := 0) dX4_fillTableaux_1 rfl ?_
  refine gf_X4_13 (pc := 2) rfl dX4_fillTableaux_2 ?_
  refine sm_icmp_lt (pc := 5) (tgt := 52) dX4_fillTableaux_5 (by decide) ?_ ?_
  · skip
    refine sm_aload_n (pc := 52) (n := 0) dX4_fillTableaux_52 rfl ?_
    refine gf_X4_29 (pc := 53) rfl dX4_fillTableaux_53 ?_
    refine sm_iload_n (pc := 56) (n := 1) dX4_fillTableaux_56 rfl ?_
    refine sm_iaload (pc := 57) dX4_fillTableaux_57 ?_
    refine sm_iload_n (pc := 58) (n := 2) dX4_fillTableaux_58 rfl ?_
    refine sm_iadd (pc := 59) dX4_fillTableaux_59 ?_
    refine sm_istore_n (pc := 60) (n := 3) dX4_fillTableaux_60 rfl ?_
    refine sm_iload_n (pc := 61) (n := 2) dX4_fillTableaux_61 rfl ?_
    refine sm_join (pc := 62) (pc' := 77) (sbX4_fillTableaux_77 n self hself P) (fun j77 hj77 => ?_)
    refine sm_if_le (pc := 62) (tgt := 76) dX4_fillTableaux_62 (by decide) ?_ ?_
    · skip
      refine sm_iconst (pc := 76) dX4_fillTableaux_76 zc_i_0 ?_
      exact hj77
    · skip
      refine sm_aload_n (pc := 65) (n := 0) dX4_fillTableaux_65 rfl ?_
      refine gf_X4_42 (pc := 66) rfl dX4_fillTableaux_66 ?_
      refine sm_iload_n (pc := 69) (n := 3) dX4_fillTableaux_69 rfl ?_
      refine sm_iconst (pc := 70) dX4_fillTableaux_70 zc_i_1 ?_
      refine sm_isub (pc := 71) dX4_fillTableaux_71 ?_
      refine sm_iaload (pc := 72) dX4_fillTableaux_72 ?_
      refine sm_goto (pc := 73) (tgt := 77) dX4_fillTableaux_73 (by decide) ?_
      exact hj77
  · skip
    refine sm_aload_n (pc := 8) (n := 0) dX4_fillTableaux_8 rfl ?_
    refine gf_X4_69 (pc := 9) rfl dX4_fillTableaux_9 ?_
    refine sm_aload_n (pc := 12) (n := 0) dX4_fillTableaux_12 rfl ?_
    refine gf_X4_39 (pc := 13) rfl dX4_fillTableaux_13 ?_
    refine sm_join (pc := 16) (pc' := 51) (sbX4_fillTableaux_51 n self hself P) (fun j51 hj51 => ?_)
    refine sm_icmp_ge (pc := 16) (tgt := 51) dX4_fillTableaux_16 (by decide) ?_ ?_
    · skip
      exact hj51
    · skip
      refine sm_aload_n (pc := 19) (n := 0) dX4_fillTableaux_19 rfl ?_
      refine gf_X4_42 (pc := 20) rfl dX4_fillTableaux_20 ?_
      refine sm_iconst (pc := 23) dX4_fillTableaux_23 zc_i_0 ?_
      refine sm_aload_n (pc := 24) (n := 0) dX4_fillTableaux_24 rfl ?_
      refine gf_X4_50 (pc := 25) rfl dX4_fillTableaux_25 ?_
      refine sm_aload_n (pc := 28) (n := 0) dX4_fillTableaux_28 rfl ?_
      refine gf_X4_69 (pc := 29) rfl dX4_fillTableaux_29 ?_
      refine sm_aaload (pc := 32) dX4_fillTableaux_32 ?_
      refine sm_iconst (pc := 33) dX4_fillTableaux_33 zc_i_0 ?_
      refine sm_aload_n (pc := 34) (n := 0) dX4_fillTableaux_34 rfl ?_
      refine gf_X4_7 (pc := 35) rfl dX4_fillTableaux_35 ?_
      refine sm_copyI (pc := 38) wd_102 wd_80 wd_79 wd_7 (by omega) dX4_fillTableaux_38 ?_
      refine sm_aload_n (pc := 41) (n := 0) dX4_fillTableaux_41 rfl ?_
      refine sm_dup (pc := 42) dX4_fillTableaux_42 ?_
      refine gf_X4_69 (pc := 43) rfl dX4_fillTableaux_43 ?_
      exact scX4_fillTableaux_46 n self hself P j51 hj51
noncomputable def f_X4_fillTableaux {d : Nat} : List zV → zH d → zP d → Bool := zrec 7 b_X4_fillTableaux 8
theorem m_X4_fillTableaux {d : Nat} : zMet (d := d) X_X4_fillTableaux yX4_fillTableaux 9 f_X4_fillTableaux := zmet_rec (X := X_X4_fillTableaux) (fr := 1) (by decide) rfl rfl (fun n f hf _ P => s_X4_fillTableaux n f hf P) 8

abbrev X_X4_fillWays : zM := (RX4, cX4_fillWays, 7, none, "fillWays")
noncomputable def bX4_fillWays_210 {d : Nat} (self : List zV → zH d → zP d → Bool) (P : zP d) (r87 : zK d) : zK d := (xinc 5 1 r87)
set_option maxRecDepth 100000 in
set_option maxHeartbeats 4000000 in
theorem sbX4_fillWays_210 {d : Nat} [zGh] (n : Nat) (self : List zV → zH d → zP d → Bool) (hself : zMet X_X4_fillWays yX4_fillWays (1 + n) self) (P : zP d) (r87 : zK d) (hr87 : zSim X_X4_fillWays (1 + (n + 1)) P 87 r87) : zSim X_X4_fillWays (1 + (n + 1)) P 210 (bX4_fillWays_210 self P r87) := by
  unfold bX4_fillWays_210
  refine sm_iinc (pc := 210) (n := 5) dX4_fillWays_210 zc_i_1 ?_
  refine sm_goto (pc := 213) (tgt := 87) dX4_fillWays_213 (by decide) ?_
  exact hr87
noncomputable def bX4_fillWays_192 {d : Nat} (self : List zV → zH d → zP d → Bool) (P : zP d) (j210 : zK d) : zK d := (xcV 20 4 0 0 self (xald 0 (xgfR 20 15 (xild 2 (xdup2 (xald1 0 (xpI 1 (xild 5 (xbin zshl (xpI 4294967295 (xbin zxor (xbin zand (xast1 0 (fun v => v) j210)))))))))))))
set_option maxRecDepth 100000 in
set_option maxHeartbeats 4000000 in
theorem sbX4_fillWays_192 {d : Nat} [zGh] (n : Nat) (self : List zV → zH d → zP d → Bool) (hself : zMet X_X4_fillWays yX4_fillWays (1 + n) self) (P : zP d) (j210 : zK d) (hj210 : zSim X_X4_fillWays (1 + (n + 1)) P 210 j210) : zSim X_X4_fillWays (1 + (n + 1)) P 192 (bX4_fillWays_192 self P j210) := by
  unfold bX4_fillWays_192
  refine sm_cV (pc := 192) (ci := 4) (n := 4) (mc := 0) (ms := 0) rfl hself (cr_X4_76 (X := X_X4_fillWays) (fr := 1 + (n + 1)) (frc := 1 + n) (pc := 192) (mc := 0) (ms := 0) rfl (by omega) dX4_fillWays_192) ?_
  refine sm_aload_n (pc := 195) (n := 0) dX4_fillWays_195 rfl ?_
  refine gf_X4_45 (pc := 196) rfl dX4_fillWays_196 ?_
  refine sm_iload_n (pc := 199) (n := 2) dX4_fillWays_199 rfl ?_
  refine sm_dup2 (pc := 200) dX4_fillWays_200 ?_
  refine sm_iaload (pc := 201) dX4_fillWays_201 ?_
  refine sm_iconst (pc := 202) dX4_fillWays_202 zc_i_1 ?_
  refine sm_iload (pc := 203) (n := 5) dX4_fillWays_203 ?_
  refine sm_ishl (pc := 205) dX4_fillWays_205 ?_
  refine sm_iconst (pc := 206) dX4_fillWays_206 zc_i_m1 ?_
  refine sm_ixor (pc := 207) dX4_fillWays_207 ?_
  refine sm_iand (pc := 208) dX4_fillWays_208 ?_
  refine sm_iastore (pc := 209) dX4_fillWays_209 ?_
  exact hj210
noncomputable def bX4_fillWays_179 {d : Nat} (self : List zV → zH d → zP d → Bool) (P : zP d) (j210 : zK d) : zK d := (xild 6 (xpI 2 (xbinN zrem (xjoin (bX4_fillWays_192 self P j210) (fun j192 => (xif0 t0eq (xild 3 j192) (xild 3 (xun zneg j192))))))))
set_option maxRecDepth 100000 in
set_option maxHeartbeats 4000000 in
theorem sbX4_fillWays_179 {d : Nat} [zGh] (n : Nat) (self : List zV → zH d → zP d → Bool) (hself : zMet X_X4_fillWays yX4_fillWays (1 + n) self) (P : zP d) (j210 : zK d) (hj210 : zSim X_X4_fillWays (1 + (n + 1)) P 210 j210) : zSim X_X4_fillWays (1 + (n + 1)) P 179 (bX4_fillWays_179 self P j210) := by
  unfold bX4_fillWays_179
  refine sm_iload (pc := 179) (n := 6) dX4_fillWays_179 ?_
  refine sm_iconst (pc := 181) dX4_fillWays_181 zc_i_2 ?_
  refine sm_irem (pc := 182) dX4_fillWays_182 ?_
  refine sm_join (pc := 183) (pc' := 192) (sbX4_fillWays_192 n self hself P j210 hj210) (fun j192 hj192 => ?_)
  refine sm_if_ne (pc := 183) (tgt := 190) dX4_fillWays_183 (by decide) ?_ ?_
  · skip
    refine sm_iload_n (pc := 190) (n := 3) dX4_fillWays_190 rfl ?_
    refine sm_ineg (pc := 191) dX4_fillWays_191 ?_
    exact hj192
  · skip
    refine sm_iload_n (pc := 186) (n := 3) dX4_fillWays_186 rfl ?_
    refine sm_goto (pc := 187) (tgt := 192) dX4_fillWays_187 (by decide) ?_
    exact hj192
noncomputable def bX4_fillWays_167 {d : Nat} (self : List zV → zH d → zP d → Bool) (P : zP d) (j210 : zK d) : zK d := (xild 4 (xjoin (bX4_fillWays_179 self P j210) (fun j179 => (xif0 t0eq (xild 2 (xpI 1 (xbin zadd j179))) (xpI 0 j179)))))
set_option maxRecDepth 100000 in
set_option maxHeartbeats 4000000 in
theorem sbX4_fillWays_167 {d : Nat} [zGh] (n : Nat) (self : List zV → zH d → zP d → Bool) (hself : zMet X_X4_fillWays yX4_fillWays (1 + n) self) (P : zP d) (j210 : zK d) (hj210 : zSim X_X4_fillWays (1 + (n + 1)) P 210 j210) : zSim X_X4_fillWays (1 + (n + 1)) P 167 (bX4_fillWays_167 self P j210) := by
  unfold bX4_fillWays_167
  refine sm_iload (pc := 167) (n := 4) dX4_fillWays_167 ?_
  refine sm_join (pc := 169) (pc' := 179) (sbX4_fillWays_179 n self hself P j210 hj210) (fun j179 hj179 => ?_)
  refine sm_if_eq (pc := 169) (tgt := 176) dX4_fillWays_169 (by decide) ?_ ?_
  · skip
    refine sm_iload_n (pc := 176) (n := 2) dX4_fillWays_176 rfl ?_
    refine sm_iconst (pc := 177) dX4_fillWays_177 zc_i_1 ?_
    refine sm_iadd (pc := 178) dX4_fillWays_178 ?_
    exact hj179
  · skip
    refine sm_iconst (pc := 172) dX4_fillWays_172 zc_i_0 ?_
    refine sm_goto (pc := 173) (tgt := 179) dX4_fillWays_173 (by decide) ?_
    exact hj179
noncomputable def cX4_fillWays_162 {d : Nat} (self : List zV → zH d → zP d → Bool) (P : zP d) (j167 : zK d) : zK d := (xbin zadd j167)
set_option maxRecDepth 100000 in
set_option maxHeartbeats 4000000 in
theorem scX4_fillWays_162 {d : Nat} [zGh] (n : Nat) (self : List zV → zH d → zP d → Bool) (hself : zMet X_X4_fillWays yX4_fillWays (1 + n) self) (P : zP d) (j167 : zK d) (hj167 : zSim X_X4_fillWays (1 + (n + 1)) P 167 j167) : zSim X_X4_fillWays (1 + (n + 1)) P 162 (cX4_fillWays_162 self P j167) := by
  unfold cX4_fillWays_162
  refine sm_iadd (pc := 162) dX4_fillWays_162 ?_
  refine sm_goto (pc := 163) (tgt := 167) dX4_fillWays_163 (by decide) ?_
  exact hj167
noncomputable def cX4_fillWays_127 {d : Nat} (self : List zV → zH d → zP d → Bool) (P : zP d) (j210 : zK d) : zK d := (xgfR 20 15 (xild 2 (xdup2 (xald1 0 (xpI 1 (xild 5 (xbin zshl (xbin zor (xast1 0 (fun v => v) (xald 0 (xgfR 20 14 (xald 0 (xgfR 20 4 (xild 1 (xald1 0 (xild 2 (xbin zadd (xild 5 (xast1 0 (fun v => v) (xald 0 (xild 4 (xjoin (bX4_fillWays_167 self P j210) (fun j167 => (xif0 t0eq (xild 1 j167) (xild 1 (xpI 1 (cX4_fillWays_162 self P j167)))))))))))))))))))))))))))
set_option maxRecDepth 100000 in
set_option maxHeartbeats 4000000 in
theorem scX4_fillWays_127 {d : Nat} [zGh] (n : Nat) (self : List zV → zH d → zP d → Bool) (hself : zMet X_X4_fillWays yX4_fillWays (1 + n) self) (P : zP d) (j210 : zK d) (hj210 : zSim X_X4_fillWays (1 + (n + 1)) P 210 j210) : zSim X_X4_fillWays (1 + (n + 1)) P 127 (cX4_fillWays_127 self P j210) := by
  unfold cX4_fillWays_127
  refine gf_X4_45 (pc := 127) rfl dX4_fillWays_127 ?_
  refine sm_iload_n (pc := 130) (n := 2) dX4_fillWays_130 rfl ?_
  refine sm_dup2 (pc := 131) dX4_fillWays_131 ?_
  refine sm_iaload (pc := 132) dX4_fillWays_132 ?_
  refine sm_iconst (pc := 133) dX4_fillWays_133 zc_i_1 ?_
  refine sm_iload (pc := 134) (n := 5) dX4_fillWays_134 ?_
  refine sm_ishl (pc := 136) dX4_fillWays_136 ?_
  refine sm_ior (pc := 137) dX4_fillWays_137 ?_
  refine sm_iastore (pc := 138) dX4_fillWays_138 ?_
  refine sm_aload_n (pc := 139) (n := 0) dX4_fillWays_139 rfl ?_
  refine gf_X4_42 (pc := 140) rfl dX4_fillWays_140 ?_
  refine sm_aload_n (pc := 143) (n := 0) dX4_fillWays_143 rfl ?_
  refine gf_X4_29 (pc := 144) rfl dX4_fillWays_144 ?_
  refine sm_iload_n (pc := 147) (n := 1) dX4_fillWays_147 rfl ?_
  refine sm_iaload (pc := 148) dX4_fillWays_148 ?_
  refine sm_iload_n (pc := 149) (n := 2) dX4_fillWays_149 rfl ?_
  refine sm_iadd (pc := 150) dX4_fillWays_150 ?_
  refine sm_iload (pc := 151) (n := 5) dX4_fillWays_151 ?_
  refine sm_iastore (pc := 153) dX4_fillWays_153 ?_
  refine sm_aload_n (pc := 154) (n := 0) dX4_fillWays_154 rfl ?_
  refine sm_iload (pc := 155) (n := 4) dX4_fillWays_155 ?_
  refine sm_join (pc := 157) (pc' := 167) (sbX4_fillWays_167 n self hself P j210 hj210) (fun j167 hj167 => ?_)
  refine sm_if_eq (pc := 157) (tgt := 166) dX4_fillWays_157 (by decide) ?_ ?_
  · skip
    refine sm_iload_n (pc := 166) (n := 1) dX4_fillWays_166 rfl ?_
    exact hj167
  · skip
    refine sm_iload_n (pc := 160) (n := 1) dX4_fillWays_160 rfl ?_
    refine sm_iconst (pc := 161) dX4_fillWays_161 zc_i_1 ?_
    exact scX4_fillWays_162 n self hself P j167 hj167
noncomputable def lX4_fillWays_87 {d : Nat} (self : List zV → zH d → zP d → Bool) (P : zP d) (r87 : zK d) : zK d := (xild 5 (xald 0 (xgfR 20 3 (xild 2 (xald1 0 (xcmp tge (xvret P) (xald 0 (xgfR 20 15 (xild 2 (xald1 0 (xild 5 (xbin zshr (xpI 1 (xbin zand (xjoin (bX4_fillWays_210 self P r87) (fun j210 => (xif0 t0eq (xald 0 (xgfR 20 15 (xild 2 (xald1 0 (xild 5 (xbin zshr (xcS 1 0 0 f_J6_bitCount_0f7a4 (xist 6 (xald 0 (cX4_fillWays_127 self P j210)))))))))) j210)))))))))))))))))
set_option maxRecDepth 100000 in
set_option maxHeartbeats 4000000 in
theorem slX4_fillWays_87 {d : Nat} [zGh] (n : Nat) (self : List zV → zH d → zP d → Bool) (hself : zMet X_X4_fillWays yX4_fillWays (1 + n) self) (P : zP d) (r87 : zK d) (hr87 : zSim X_X4_fillWays (1 + (n + 1)) P 87 r87) : zSim X_X4_fillWays (1 + (n + 1)) P 87 (lX4_fillWays_87 self P r87) := by
  unfold lX4_fillWays_87
  refine sm_iload (pc := 87) (n := 5) dX4_fillWays_87 ?_
  refine sm_aload_n (pc := 89) (n := 0) dX4_fillWays_89 rfl ?_
  refine gf_X4_26 (pc := 90) rfl dX4_fillWays_90 ?_
  refine sm_iload_n (pc := 93) (n := 2) dX4_fillWays_93 rfl ?_
  refine sm_iaload (pc := 94) dX4_fillWays_94 ?_
  refine sm_icmp_ge (pc := 95) (tgt := 216) dX4_fillWays_95 (by decide) ?_ ?_
  · skip
    exact sm_vreturn (pc := 216) dX4_fillWays_216 rfl
  · skip
    refine sm_aload_n (pc := 98) (n := 0) dX4_fillWays_98 rfl ?_
    refine gf_X4_45 (pc := 99) rfl dX4_fillWays_99 ?_
    refine sm_iload_n (pc := 102) (n := 2) dX4_fillWays_102 rfl ?_
    refine sm_iaload (pc := 103) dX4_fillWays_103 ?_
    refine sm_iload (pc := 104) (n := 5) dX4_fillWays_104 ?_
    refine sm_ishr (pc := 106) dX4_fillWays_106 ?_
    refine sm_iconst (pc := 107) dX4_fillWays_107 zc_i_1 ?_
    refine sm_iand (pc := 108) dX4_fillWays_108 ?_
    refine sm_join (pc := 109) (pc' := 210) (sbX4_fillWays_210 n self hself P r87 hr87) (fun j210 hj210 => ?_)
    refine sm_if_ne (pc := 109) (tgt := 210) dX4_fillWays_109 (by decide) ?_ ?_
    · skip
      exact hj210
    · skip
      refine sm_aload_n (pc := 112) (n := 0) dX4_fillWays_112 rfl ?_
      refine gf_X4_45 (pc := 113) rfl dX4_fillWays_113 ?_
      refine sm_iload_n (pc := 116) (n := 2) dX4_fillWays_116 rfl ?_
      refine sm_iaload (pc := 117) dX4_fillWays_117 ?_
      refine sm_iload (pc := 118) (n := 5) dX4_fillWays_118 ?_
      refine sm_ishr (pc := 120) dX4_fillWays_120 ?_
      refine sm_cS (pc := 121) (n := 1) (mc := 0) (ms := 0) m_J6_bitCount_0f7a4 (cr_X4_113 (X := X_X4_fillWays) (fr := 1 + (n + 1)) (frc := 1) (pc := 121) (mc := 0) (ms := 0) rfl (by omega) dX4_fillWays_121) ?_
      refine sm_istore (pc := 124) (n := 6) dX4_fillWays_124 ?_
      refine sm_aload_n (pc := 126) (n := 0) dX4_fillWays_126 rfl ?_
      exact scX4_fillWays_127 n self hself P j210 hj210
noncomputable def bX4_fillWays_82 {d : Nat} (self : List zV → zH d → zP d → Bool) (P : zP d) : zK d := (xist 4 (xpI 0 (xist 5 (xloop (fun r87 => (lX4_fillWays_87 self P r87)) 100000))))
set_option maxRecDepth 100000 in
set_option maxHeartbeats 4000000 in
theorem sbX4_fillWays_82 {d : Nat} [zGh] (n : Nat) (self : List zV → zH d → zP d → Bool) (hself : zMet X_X4_fillWays yX4_fillWays (1 + n) self) (P : zP d) : zSim X_X4_fillWays (1 + (n + 1)) P 82 (bX4_fillWays_82 self P) := by
  unfold bX4_fillWays_82
  refine sm_istore (pc := 82) (n := 4) dX4_fillWays_82 ?_
  refine sm_iconst (pc := 84) dX4_fillWays_84 zc_i_0 ?_
  refine sm_istore (pc := 85) (n := 5) dX4_fillWays_85 ?_
  exact sm_loop (fun r87 hr87 => slX4_fillWays_87 n self hself P r87 hr87) _
noncomputable def bX4_fillWays_64 {d : Nat} (self : List zV → zH d → zP d → Bool) (P : zP d) : zK d := (xvret P)
set_option maxRecDepth 100000 in
set_option maxHeartbeats 4000000 in
theorem sbX4_fillWays_64 {d : Nat} [zGh] (n : Nat) (self : List zV → zH d → zP d → Bool) (hself : zMet X_X4_fillWays yX4_fillWays (1 + n) self) (P : zP d) : zSim X_X4_fillWays (1 + (n + 1)) P 64 (bX4_fillWays_64 self P) := by
  unfold bX4_fillWays_64
  exact sm_vreturn (pc := 64) dX4_fillWays_64 rfl
noncomputable def cX4_fillWays_48 {d : Nat} (self : List zV → zH d → zP d → Bool) (P : zP d) (j64 : zK d) : zK d := (xald 0 (xgfI 20 13 (xild 3 (xast1 0 (fun v => v) (xald 0 (xdup (xgfI 20 13 (xpI 1 (xbin zadd (xpfI 20 13 j64))))))))))
set_option maxRecDepth 100000 in
set_option maxHeartbeats 4000000 in
theorem scX4_fillWays_48 {d : Nat} [zGh] (n : Nat) (self : List zV → zH d → zP d → Bool) (hself : zMet X_X4_fillWays yX4_fillWays (1 + n) self) (P : zP d) (j64 : zK d) (hj64 : zSim X_X4_fillWays (1 + (n + 1)) P 64 j64) : zSim X_X4_fillWays (1 + (n + 1)) P 48 (cX4_fillWays_48 self P j64) := by
  unfold cX4_fillWays_48
  refine sm_aload_n (pc := 48) (n := 0) dX4_fillWays_48 rfl ?_
  refine gf_X4_69 (pc := 49) rfl dX4_fillWays_49 ?_
  refine sm_iload_n (pc := 52) (n := 3) dX4_fillWays_52 rfl ?_
  refine sm_iastore (pc := 53) dX4_fillWays_53 ?_
  refine sm_aload_n (pc := 54) (n := 0) dX4_fillWays_54 rfl ?_
  refine sm_dup (pc := 55) dX4_fillWays_55 ?_
  refine gf_X4_69 (pc := 56) rfl dX4_fillWays_56 ?_
  refine sm_iconst (pc := 59) dX4_fillWays_59 zc_i_1 ?_
  refine sm_iadd (pc := 60) dX4_fillWays_60 ?_
  refine pf_X4_69 (pc := 61) rfl dX4_fillWays_61 ?_
  exact hj64
noncomputable def b_X4_fillWays {d : Nat} (self : List zV → zH d → zP d → Bool) (P : zP d) : zK d := (xild 1 (xald 0 (xgfI 20 1 (xcmp tge (xald 0 (xgfI 20 13 (xald 0 (xgfI 20 8 (xjoin (bX4_fillWays_64 self P) (fun j64 => (xcmp tge j64 (xald 0 (xgfR 20 14 (xpI 0 (xald 0 (xgfR 20 9 (xald 0 (xgfI 20 13 (xald 0 (xgfI 20 0 (xbin zmul (xald 0 (xgfI 20 0 (xcpy 0 40 (xald 0 (xgfR 20 10 (cX4_fillWays_48 self P j64))))))))))))))))))))))) (xild 2 (xpI 1 (xbin zadd (xald 0 (xgfR 20 2 (xild 1 (xald1 0 (xjoin (bX4_fillWays_82 self P) (fun j82 => (xcmp Nat.beq (xpI 1 j82) (xpI 0 j82)))))))))))))))
set_option maxRecDepth 100000 in
set_option maxHeartbeats 4000000 in
theorem s_X4_fillWays {d : Nat} [zGh] (n : Nat) (self : List zV → zH d → zP d → Bool) (hself : zMet X_X4_fillWays yX4_fillWays (1 + n) self) (P : zP d) : zSim X_X4_fillWays (1 + (n + 1)) P 0 (b_X4_fillWays self P) := by
  unfold b_X4_fillWays
  refine sm_iload_n (pc := 0) (n := 1) dX4_fillWays_0 rfl ?_
  refine sm_aload_n (pc := 1) (n := 0) dX4_fillWays_1 rfl ?_
  refine gf_X4_13 (pc := 2) rfl dX4_fillWays_2 ?_
  refine sm_icmp_lt (pc := 5) (tgt := 65) dX4_fillWays_5 (by decide) ?_ ?_
  · skip
    refine sm_iload_n (pc := 65) (n := 2) dX4_fillWays_65 rfl ?_
    refine sm_iconst (pc := 66) dX4_fillWays_66 zc_i_1 ?_
    refine sm_iadd (pc := 67) dX4_fillWays_67 ?_
    refine sm_aload_n (pc := 68) (n := 0) dX4_fillWays_68 rfl ?_
    refine gf_X4_22 (pc := 69) rfl dX4_fillWays_69 ?_
    refine sm_iload_n (pc := 72) (n := 1) dX4_fillWays_72 rfl ?_
    refine sm_iaload (pc := 73) dX4_fillWays_73 ?_
    refine sm_join (pc := 74) (pc' := 82) (sbX4_fillWays_82 n self hself P) (fun j82 hj82 => ?_)
    refine sm_icmp_ne (pc := 74) (tgt := 81) dX4_fillWays_74 (by decide) ?_ ?_
    · skip
      refine sm_iconst (pc := 81) dX4_fillWays_81 zc_i_0 ?_
      exact hj82
    · skip
      refine sm_iconst (pc := 77) dX4_fillWays_77 zc_i_1 ?_
      refine sm_goto (pc := 78) (tgt := 82) dX4_fillWays_78 (by decide) ?_
      exact hj82
  · skip
    refine sm_aload_n (pc := 8) (n := 0) dX4_fillWays_8 rfl ?_
    refine gf_X4_69 (pc := 9) rfl dX4_fillWays_9 ?_
    refine sm_aload_n (pc := 12) (n := 0) dX4_fillWays_12 rfl ?_
    refine gf_X4_60 (pc := 13) rfl dX4_fillWays_13 ?_
    refine sm_join (pc := 16) (pc' := 64) (sbX4_fillWays_64 n self hself P) (fun j64 hj64 => ?_)
    refine sm_icmp_ge (pc := 16) (tgt := 64) dX4_fillWays_16 (by decide) ?_ ?_
    · skip
      exact hj64
    · skip
      refine sm_aload_n (pc := 19) (n := 0) dX4_fillWays_19 rfl ?_
      refine gf_X4_42 (pc := 20) rfl dX4_fillWays_20 ?_
      refine sm_iconst (pc := 23) dX4_fillWays_23 zc_i_0 ?_
      refine sm_aload_n (pc := 24) (n := 0) dX4_fillWays_24 rfl ?_
      refine gf_X4_63 (pc := 25) rfl dX4_fillWays_25 ?_
      refine sm_aload_n (pc := 28) (n := 0) dX4_fillWays_28 rfl ?_
      refine gf_X4_69 (pc := 29) rfl dX4_fillWays_29 ?_
      refine sm_aload_n (pc := 32) (n := 0) dX4_fillWays_32 rfl ?_
      refine gf_X4_7 (pc := 33) rfl dX4_fillWays_33 ?_
      refine sm_imul (pc := 36) dX4_fillWays_36 ?_
      refine sm_aload_n (pc := 37) (n := 0) dX4_fillWays_37 rfl ?_
      refine gf_X4_7 (pc := 38) rfl dX4_fillWays_38 ?_
      refine sm_copyI (pc := 41) wd_102 wd_80 wd_79 wd_7 (by omega) dX4_fillWays_41 ?_
      refine sm_aload_n (pc := 44) (n := 0) dX4_fillWays_44 rfl ?_
      refine gf_X4_66 (pc := 45) rfl dX4_fillWays_45 ?_
      exact scX4_fillWays_48 n self hself P j64 hj64
noncomputable def f_X4_fillWays {d : Nat} : List zV → zH d → zP d → Bool := zrec 7 b_X4_fillWays 8
theorem m_X4_fillWays {d : Nat} : zMet (d := d) X_X4_fillWays yX4_fillWays 9 f_X4_fillWays := zmet_rec (X := X_X4_fillWays) (fr := 1) (by decide) rfl rfl (fun n f hf _ P => s_X4_fillWays n f hf P) 8

abbrev X_X4_weighNumbers : zM := (RX4, cX4_weighNumbers, 3, none, "weighNumbers")
noncomputable def lX4_weighNumbers_4 {d : Nat} (P : zP d) (r4 : zK d) : zK d := (xild 2 (xald 0 (xgfI 20 0 (xcmp tge (xvret P) (xald 0 (xgfR 20 12 (xild 2 (xild 1 (xast1 0 (fun v => v) (xild 1 (xald 0 (xgfI 20 1 (xbin zmul (xist 1 (xinc 2 1 r4)))))))))))))))
set_option maxRecDepth 100000 in
set_option maxHeartbeats 4000000 in
theorem slX4_weighNumbers_4 {d : Nat} [zGh] (P : zP d) (r4 : zK d) (hr4 : zSim X_X4_weighNumbers 1 P 4 r4) : zSim X_X4_weighNumbers 1 P 4 (lX4_weighNumbers_4 P r4) := by
  unfold lX4_weighNumbers_4
  refine sm_iload_n (pc := 4) (n := 2) dX4_weighNumbers_4 rfl ?_
  refine sm_aload_n (pc := 5) (n := 0) dX4_weighNumbers_5 rfl ?_
  refine gf_X4_7 (pc := 6) rfl dX4_weighNumbers_6 ?_
  refine sm_icmp_ge (pc := 9) (tgt := 32) dX4_weighNumbers_9 (by decide) ?_ ?_
  · skip
    exact sm_vreturn (pc := 32) dX4_weighNumbers_32 rfl
  · skip
    refine sm_aload_n (pc := 12) (n := 0) dX4_weighNumbers_12 rfl ?_
    refine gf_X4_80 (pc := 13) rfl dX4_weighNumbers_13 ?_
    refine sm_iload_n (pc := 16) (n := 2) dX4_weighNumbers_16 rfl ?_
    refine sm_iload_n (pc := 17) (n := 1) dX4_weighNumbers_17 rfl ?_
    refine sm_iastore (pc := 18) dX4_weighNumbers_18 ?_
    refine sm_iload_n (pc := 19) (n := 1) dX4_weighNumbers_19 rfl ?_
    refine sm_aload_n (pc := 20) (n := 0) dX4_weighNumbers_20 rfl ?_
    refine gf_X4_13 (pc := 21) rfl dX4_weighNumbers_21 ?_
    refine sm_imul (pc := 24) dX4_weighNumbers_24 ?_
    refine sm_istore_n (pc := 25) (n := 1) dX4_weighNumbers_25 rfl ?_
    refine sm_iinc (pc := 26) (n := 2) dX4_weighNumbers_26 zc_i_1 ?_
    refine sm_goto (pc := 29) (tgt := 4) dX4_weighNumbers_29 (by decide) ?_
    exact hr4
noncomputable def b_X4_weighNumbers {d : Nat} (P : zP d) : zK d := (xpI 1 (xist 1 (xpI 1 (xist 2 (xloop (fun r4 => (lX4_weighNumbers_4 P r4)) 100000)))))
set_option maxRecDepth 100000 in
set_option maxHeartbeats 4000000 in
theorem s_X4_weighNumbers {d : Nat} [zGh] (P : zP d) : zSim X_X4_weighNumbers 1 P 0 (b_X4_weighNumbers P) := by
  unfold b_X4_weighNumbers
  refine sm_iconst (pc := 0) dX4_weighNumbers_0 zc_i_1 ?_
  refine sm_istore_n (pc := 1) (n := 1) dX4_weighNumbers_1 rfl ?_
  refine sm_iconst (pc := 2) dX4_weighNumbers_2 zc_i_1 ?_
  refine sm_istore_n (pc := 3) (n := 2) dX4_weighNumbers_3 rfl ?_
  exact sm_loop (fun r4 hr4 => slX4_weighNumbers_4 P r4 hr4) _
noncomputable def f_X4_weighNumbers {d : Nat} : List zV → zH d → zP d → Bool := zfn 3 b_X4_weighNumbers
theorem m_X4_weighNumbers {d : Nat} : zMet (d := d) X_X4_weighNumbers yX4_weighNumbers 1 f_X4_weighNumbers := zmet_mk (X := X_X4_weighNumbers) (by decide) rfl rfl s_X4_weighNumbers

abbrev X_X4_codeCount : zM := (RX4, cX4_codeCount, 3, (some .int), "codeCount")
noncomputable def lX4_codeCount_4 {d : Nat} (P : zP d) (r4 : zK d) : zK d := (xild 2 (xald 0 (xgfI 20 0 (xcmp tge (xild 1 (xiret P)) (xild 1 (xald 0 (xgfI 20 1 (xbin zmul (xist 1 (xinc 2 1 r4))))))))))
set_option maxRecDepth 100000 in
set_option maxHeartbeats 4000000 in
theorem slX4_codeCount_4 {d : Nat} [zGh] (P : zP d) (r4 : zK d) (hr4 : zSim X_X4_codeCount 1 P 4 r4) : zSim X_X4_codeCount 1 P 4 (lX4_codeCount_4 P r4) := by
  unfold lX4_codeCount_4
  refine sm_iload_n (pc := 4) (n := 2) dX4_codeCount_4 rfl ?_
  refine sm_aload_n (pc := 5) (n := 0) dX4_codeCount_5 rfl ?_
  refine gf_X4_7 (pc := 6) rfl dX4_codeCount_6 ?_
  refine sm_icmp_ge (pc := 9) (tgt := 25) dX4_codeCount_9 (by decide) ?_ ?_
  · skip
    refine sm_iload_n (pc := 25) (n := 1) dX4_codeCount_25 rfl ?_
    exact sm_ireturn (pc := 26) dX4_codeCount_26 rfl
  · skip
    refine sm_iload_n (pc := 12) (n := 1) dX4_codeCount_12 rfl ?_
    refine sm_aload_n (pc := 13) (n := 0) dX4_codeCount_13 rfl ?_
    refine gf_X4_13 (pc := 14) rfl dX4_codeCount_14 ?_
    refine sm_imul (pc := 17) dX4_codeCount_17 ?_
    refine sm_istore_n (pc := 18) (n := 1) dX4_codeCount_18 rfl ?_
    refine sm_iinc (pc := 19) (n := 2) dX4_codeCount_19 zc_i_1 ?_
    refine sm_goto (pc := 22) (tgt := 4) dX4_codeCount_22 (by decide) ?_
    exact hr4
noncomputable def b_X4_codeCount {d : Nat} (P : zP d) : zK d := (xpI 1 (xist 1 (xpI 1 (xist 2 (xloop (fun r4 => (lX4_codeCount_4 P r4)) 100000)))))
set_option maxRecDepth 100000 in
set_option maxHeartbeats 4000000 in
theorem s_X4_codeCount {d : Nat} [zGh] (P : zP d) : zSim X_X4_codeCount 1 P 0 (b_X4_codeCount P) := by
  unfold b_X4_codeCount
  refine sm_iconst (pc := 0) dX4_codeCount_0 zc_i_1 ?_
  refine sm_istore_n (pc := 1) (n := 1) dX4_codeCount_1 rfl ?_
  refine sm_iconst (pc := 2) dX4_codeCount_2 zc_i_1 ?_
  refine sm_istore_n (pc := 3) (n := 2) dX4_codeCount_3 rfl ?_
  exact sm_loop (fun r4 hr4 => slX4_codeCount_4 P r4 hr4) _
noncomputable def f_X4_codeCount {d : Nat} : List zV → zH d → zP d → Bool := zfn 3 b_X4_codeCount
theorem m_X4_codeCount {d : Nat} : zMet (d := d) X_X4_codeCount yX4_codeCount 1 f_X4_codeCount := zmet_mk (X := X_X4_codeCount) (by decide) rfl rfl s_X4_codeCount

abbrev X_X4_codeOf : zM := (RX4, cX4_codeOf, 6, (some .int), "codeOf")
noncomputable def cX4_codeOf_44 {d : Nat} (P : zP d) (r6 : zK d) : zK d := (xist 4 (xinc 5 1 r6))
set_option maxRecDepth 100000 in
set_option maxHeartbeats 4000000 in
theorem scX4_codeOf_44 {d : Nat} [zGh] (P : zP d) (r6 : zK d) (hr6 : zSim X_X4_codeOf 1 P 6 r6) : zSim X_X4_codeOf 1 P 44 (cX4_codeOf_44 P r6) := by
  unfold cX4_codeOf_44
  refine sm_istore (pc := 44) (n := 4) dX4_codeOf_44 ?_
  refine sm_iinc (pc := 46) (n := 5) dX4_codeOf_46 zc_i_1 ?_
  refine sm_goto (pc := 49) (tgt := 6) dX4_codeOf_49 (by decide) ?_
  exact hr6
noncomputable def lX4_codeOf_6 {d : Nat} (P : zP d) (r6 : zK d) : zK d := (xild 5 (xald 0 (xgfI 20 0 (xcmp tge (xild 4 (xiret P)) (xild 4 (xald 0 (xgfR 20 9 (xild 2 (xald 0 (xgfI 20 0 (xbin zmul (xild 5 (xbin zadd (xald1 0 (xald 0 (xgfR 20 12 (xald 3 (xald 1 (xild 5 (xald1 0 (xald1 0 (xald1 0 (xbin zmul (xbin zadd (cX4_codeOf_44 P r6)))))))))))))))))))))))))
set_option maxRecDepth 100000 in
set_option maxHeartbeats 4000000 in
theorem slX4_codeOf_6 {d : Nat} [zGh] (P : zP d) (r6 : zK d) (hr6 : zSim X_X4_codeOf 1 P 6 r6) : zSim X_X4_codeOf 1 P 6 (lX4_codeOf_6 P r6) := by
  unfold lX4_codeOf_6
  refine sm_iload (pc := 6) (n := 5) dX4_codeOf_6 ?_
  refine sm_aload_n (pc := 8) (n := 0) dX4_codeOf_8 rfl ?_
  refine gf_X4_7 (pc := 9) rfl dX4_codeOf_9 ?_
  refine sm_icmp_ge (pc := 12) (tgt := 52) dX4_codeOf_12 (by decide) ?_ ?_
  · skip
    refine sm_iload (pc := 52) (n := 4) dX4_codeOf_52 ?_
    exact sm_ireturn (pc := 54) dX4_codeOf_54 rfl
  · skip
    refine sm_iload (pc := 15) (n := 4) dX4_codeOf_15 ?_
    refine sm_aload_n (pc := 17) (n := 0) dX4_codeOf_17 rfl ?_
    refine gf_X4_63 (pc := 18) rfl dX4_codeOf_18 ?_
    refine sm_iload_n (pc := 21) (n := 2) dX4_codeOf_21 rfl ?_
    refine sm_aload_n (pc := 22) (n := 0) dX4_codeOf_22 rfl ?_
    refine gf_X4_7 (pc := 23) rfl dX4_codeOf_23 ?_
    refine sm_imul (pc := 26) dX4_codeOf_26 ?_
    refine sm_iload (pc := 27) (n := 5) dX4_codeOf_27 ?_
    refine sm_iadd (pc := 29) dX4_codeOf_29 ?_
    refine sm_iaload (pc := 30) dX4_codeOf_30 ?_
    refine sm_aload_n (pc := 31) (n := 0) dX4_codeOf_31 rfl ?_
    refine gf_X4_80 (pc := 32) rfl dX4_codeOf_32 ?_
    refine sm_aload_n (pc := 35) (n := 3) dX4_codeOf_35 rfl ?_
    refine sm_aload_n (pc := 36) (n := 1) dX4_codeOf_36 rfl ?_
    refine sm_iload (pc := 37) (n := 5) dX4_codeOf_37 ?_
    refine sm_iaload (pc := 39) dX4_codeOf_39 ?_
    refine sm_iaload (pc := 40) dX4_codeOf_40 ?_
    refine sm_iaload (pc := 41) dX4_codeOf_41 ?_
    refine sm_imul (pc := 42) dX4_codeOf_42 ?_
    refine sm_iadd (pc := 43) dX4_codeOf_43 ?_
    exact scX4_codeOf_44 P r6 hr6
noncomputable def b_X4_codeOf {d : Nat} (P : zP d) : zK d := (xpI 0 (xist 4 (xpI 0 (xist 5 (xloop (fun r6 => (lX4_codeOf_6 P r6)) 100000)))))
set_option maxRecDepth 100000 in
set_option maxHeartbeats 4000000 in
theorem s_X4_codeOf {d : Nat} [zGh] (P : zP d) : zSim X_X4_codeOf 1 P 0 (b_X4_codeOf P) := by
  unfold b_X4_codeOf
  refine sm_iconst (pc := 0) dX4_codeOf_0 zc_i_0 ?_
  refine sm_istore (pc := 1) (n := 4) dX4_codeOf_1 ?_
  refine sm_iconst (pc := 3) dX4_codeOf_3 zc_i_0 ?_
  refine sm_istore (pc := 4) (n := 5) dX4_codeOf_4 ?_
  exact sm_loop (fun r6 hr6 => slX4_codeOf_6 P r6 hr6) _
noncomputable def f_X4_codeOf {d : Nat} : List zV → zH d → zP d → Bool := zfn 6 b_X4_codeOf
theorem m_X4_codeOf {d : Nat} : zMet (d := d) X_X4_codeOf yX4_codeOf 1 f_X4_codeOf := zmet_mk (X := X_X4_codeOf) (by decide) rfl rfl s_X4_codeOf

abbrev X_X4_formWith : zM := (RX4, cX4_formWith, 5, (some .int), "formWith")
noncomputable def lX4_formWith_5 {d : Nat} (P : zP d) (r5 : zK d) : zK d := (xild 4 (xald 0 (xgfI 20 8 (xcmp tge (xild 3 (xiret P)) (xild 3 (xald 0 (xgfR 20 10 (xild 4 (xald1 0 (xald 2 (xald 1 (xild 4 (xald1 0 (xald1 0 (xbin zmul (xbin zadd (xist 3 (xinc 4 1 r5))))))))))))))))))
set_option maxRecDepth 100000 in
set_option maxHeartbeats 4000000 in
theorem slX4_formWith_5 {d : Nat} [zGh] (P : zP d) (r5 : zK d) (hr5 : zSim X_X4_formWith 1 P 5 r5) : zSim X_X4_formWith 1 P 5 (lX4_formWith_5 P r5) := by
  unfold lX4_formWith_5
  refine sm_iload (pc := 5) (n := 4) dX4_formWith_5 ?_
  refine sm_aload_n (pc := 7) (n := 0) dX4_formWith_7 rfl ?_
  refine gf_X4_60 (pc := 8) rfl dX4_formWith_8 ?_
  refine sm_icmp_ge (pc := 11) (tgt := 37) dX4_formWith_11 (by decide) ?_ ?_
  · skip
    refine sm_iload_n (pc := 37) (n := 3) dX4_formWith_37 rfl ?_
    exact sm_ireturn (pc := 38) dX4_formWith_38 rfl
  · skip
    refine sm_iload_n (pc := 14) (n := 3) dX4_formWith_14 rfl ?_
    refine sm_aload_n (pc := 15) (n := 0) dX4_formWith_15 rfl ?_
    refine gf_X4_66 (pc := 16) rfl dX4_formWith_16 ?_
    refine sm_iload (pc := 19) (n := 4) dX4_formWith_19 ?_
    refine sm_iaload (pc := 21) dX4_formWith_21 ?_
    refine sm_aload_n (pc := 22) (n := 2) dX4_formWith_22 rfl ?_
    refine sm_aload_n (pc := 23) (n := 1) dX4_formWith_23 rfl ?_
    refine sm_iload (pc := 24) (n := 4) dX4_formWith_24 ?_
    refine sm_iaload (pc := 26) dX4_formWith_26 ?_
    refine sm_iaload (pc := 27) dX4_formWith_27 ?_
    refine sm_imul (pc := 28) dX4_formWith_28 ?_
    refine sm_iadd (pc := 29) dX4_formWith_29 ?_
    refine sm_istore_n (pc := 30) (n := 3) dX4_formWith_30 rfl ?_
    refine sm_iinc (pc := 31) (n := 4) dX4_formWith_31 zc_i_1 ?_
    refine sm_goto (pc := 34) (tgt := 5) dX4_formWith_34 (by decide) ?_
    exact hr5
noncomputable def b_X4_formWith {d : Nat} (P : zP d) : zK d := (xpI 0 (xist 3 (xpI 0 (xist 4 (xloop (fun r5 => (lX4_formWith_5 P r5)) 100000)))))
set_option maxRecDepth 100000 in
set_option maxHeartbeats 4000000 in
theorem s_X4_formWith {d : Nat} [zGh] (P : zP d) : zSim X_X4_formWith 1 P 0 (b_X4_formWith P) := by
  unfold b_X4_formWith
  refine sm_iconst (pc := 0) dX4_formWith_0 zc_i_0 ?_
  refine sm_istore_n (pc := 1) (n := 3) dX4_formWith_1 rfl ?_
  refine sm_iconst (pc := 2) dX4_formWith_2 zc_i_0 ?_
  refine sm_istore (pc := 3) (n := 4) dX4_formWith_3 ?_
  exact sm_loop (fun r5 hr5 => slX4_formWith_5 P r5 hr5) _
noncomputable def f_X4_formWith {d : Nat} : List zV → zH d → zP d → Bool := zfn 5 b_X4_formWith
theorem m_X4_formWith {d : Nat} : zMet (d := d) X_X4_formWith yX4_formWith 1 f_X4_formWith := zmet_mk (X := X_X4_formWith) (by decide) rfl rfl s_X4_formWith

abbrev X_X4_makeMovedForms : zM := (RX4, cX4_makeMovedForms, 6, none, "makeMovedForms")
noncomputable def lX4_makeMovedForms_93 {d : Nat} (P : zP d) (r3 : zK d) (r93 : zK d) : zK d := (xild 5 (xald 0 (xgfI 20 8 (xcmp tge (xinc 4 1 r3) (xald 2 (xald 0 (xald 0 (xgfR 20 6 (xild 4 (xaal (xild 5 (xald 1 (xcV 20 4 0 0 f_X4_codeOf (xpI 0 (xast1 0 (fun v => v) (xinc 5 1 r93))))))))))))))))
set_option maxRecDepth 100000 in
set_option maxHeartbeats 4000000 in
theorem slX4_makeMovedForms_93 {d : Nat} [zGh] (P : zP d) (r3 : zK d) (r93 : zK d) (hr3 : zSim X_X4_makeMovedForms 2 P 3 r3) (hr93 : zSim X_X4_makeMovedForms 2 P 93 r93) : zSim X_X4_makeMovedForms 2 P 93 (lX4_makeMovedForms_93 P r3 r93) := by
  unfold lX4_makeMovedForms_93
  refine sm_iload (pc := 93) (n := 5) dX4_makeMovedForms_93 ?_
  refine sm_aload_n (pc := 95) (n := 0) dX4_makeMovedForms_95 rfl ?_
  refine gf_X4_60 (pc := 96) rfl dX4_makeMovedForms_96 ?_
  refine sm_icmp_ge (pc := 99) (tgt := 125) dX4_makeMovedForms_99 (by decide) ?_ ?_
  · skip
    refine sm_iinc (pc := 125) (n := 4) dX4_makeMovedForms_125 zc_i_1 ?_
    refine sm_goto (pc := 128) (tgt := 3) dX4_makeMovedForms_128 (by decide) ?_
    exact hr3
  · skip
    refine sm_aload_n (pc := 102) (n := 2) dX4_makeMovedForms_102 rfl ?_
    refine sm_aload_n (pc := 103) (n := 0) dX4_makeMovedForms_103 rfl ?_
    refine sm_aload_n (pc := 104) (n := 0) dX4_makeMovedForms_104 rfl ?_
    refine gf_X4_50 (pc := 105) rfl dX4_makeMovedForms_105 ?_
    refine sm_iload (pc := 108) (n := 4) dX4_makeMovedForms_108 ?_
    refine sm_aaload (pc := 110) dX4_makeMovedForms_110 ?_
    refine sm_iload (pc := 111) (n := 5) dX4_makeMovedForms_111 ?_
    refine sm_aload_n (pc := 113) (n := 1) dX4_makeMovedForms_113 rfl ?_
    refine sm_cV (pc := 114) (ci := 4) (n := 4) (mc := 0) (ms := 0) rfl m_X4_codeOf (cr_X4_118 (X := X_X4_makeMovedForms) (fr := 2) (frc := 1) (pc := 114) (mc := 0) (ms := 0) rfl (by decide) dX4_makeMovedForms_114) ?_
    refine sm_iconst (pc := 117) dX4_makeMovedForms_117 zc_i_0 ?_
    refine sm_iastore (pc := 118) dX4_makeMovedForms_118 ?_
    refine sm_iinc (pc := 119) (n := 5) dX4_makeMovedForms_119 zc_i_1 ?_
    refine sm_goto (pc := 122) (tgt := 93) dX4_makeMovedForms_122 (by decide) ?_
    exact hr93
noncomputable def lX4_makeMovedForms_56 {d : Nat} (P : zP d) (r3 : zK d) (r56 : zK d) : zK d := (xild 5 (xald 0 (xgfI 20 5 (xcmp tge (xpI 0 (xist 5 (xloop (fun r93 => (lX4_makeMovedForms_93 P r3 r93)) 100000))) (xald 3 (xild 4 (xaal (xild 5 (xald 0 (xald 0 (xgfR 20 11 (xild 5 (xaal (xald 2 (xcV 20 3 0 0 f_X4_formWith (xast1 0 (fun v => v) (xinc 5 1 r56)))))))))))))))))
set_option maxRecDepth 100000 in
set_option maxHeartbeats 4000000 in
theorem slX4_makeMovedForms_56 {d : Nat} [zGh] (P : zP d) (r3 : zK d) (r56 : zK d) (hr3 : zSim X_X4_makeMovedForms 2 P 3 r3) (hr56 : zSim X_X4_makeMovedForms 2 P 56 r56) : zSim X_X4_makeMovedForms 2 P 56 (lX4_makeMovedForms_56 P r3 r56) := by
  unfold lX4_makeMovedForms_56
  refine sm_iload (pc := 56) (n := 5) dX4_makeMovedForms_56 ?_
  refine sm_aload_n (pc := 58) (n := 0) dX4_makeMovedForms_58 rfl ?_
  refine gf_X4_39 (pc := 59) rfl dX4_makeMovedForms_59 ?_
  refine sm_icmp_ge (pc := 62) (tgt := 90) dX4_makeMovedForms_62 (by decide) ?_ ?_
  · skip
    refine sm_iconst (pc := 90) dX4_makeMovedForms_90 zc_i_0 ?_
    refine sm_istore (pc := 91) (n := 5) dX4_makeMovedForms_91 ?_
    exact sm_loop (fun r93 hr93 => slX4_makeMovedForms_93 P r3 r93 hr3 hr93) _
  · skip
    refine sm_aload_n (pc := 65) (n := 3) dX4_makeMovedForms_65 rfl ?_
    refine sm_iload (pc := 66) (n := 4) dX4_makeMovedForms_66 ?_
    refine sm_aaload (pc := 68) dX4_makeMovedForms_68 ?_
    refine sm_iload (pc := 69) (n := 5) dX4_makeMovedForms_69 ?_
    refine sm_aload_n (pc := 71) (n := 0) dX4_makeMovedForms_71 rfl ?_
    refine sm_aload_n (pc := 72) (n := 0) dX4_makeMovedForms_72 rfl ?_
    refine gf_X4_86 (pc := 73) rfl dX4_makeMovedForms_73 ?_
    refine sm_iload (pc := 76) (n := 5) dX4_makeMovedForms_76 ?_
    refine sm_aaload (pc := 78) dX4_makeMovedForms_78 ?_
    refine sm_aload_n (pc := 79) (n := 2) dX4_makeMovedForms_79 rfl ?_
    refine sm_cV (pc := 80) (ci := 4) (n := 3) (mc := 0) (ms := 0) rfl m_X4_formWith (cr_X4_126 (X := X_X4_makeMovedForms) (fr := 2) (frc := 1) (pc := 80) (mc := 0) (ms := 0) rfl (by decide) dX4_makeMovedForms_80) ?_
    refine sm_iastore (pc := 83) dX4_makeMovedForms_83 ?_
    refine sm_iinc (pc := 84) (n := 5) dX4_makeMovedForms_84 zc_i_1 ?_
    refine sm_goto (pc := 87) (tgt := 56) dX4_makeMovedForms_87 (by decide) ?_
    exact hr56
noncomputable def lX4_makeMovedForms_15 {d : Nat} (P : zP d) (r15 : zK d) (r3 : zK d) : zK d := (xild 5 (xald 0 (xgfI 20 8 (xcmp tge (xpI 0 (xist 5 (xloop (fun r56 => (lX4_makeMovedForms_56 P r3 r56)) 100000))) (xald 2 (xald 0 (xald 0 (xgfR 20 6 (xild 4 (xaal (xild 5 (xald 1 (xcV 20 4 0 0 f_X4_codeOf (xald 0 (xgfR 20 10 (xild 5 (xald1 0 (xast1 0 (fun v => v) (xinc 5 1 r15)))))))))))))))))))
set_option maxRecDepth 100000 in
set_option maxHeartbeats 4000000 in
theorem slX4_makeMovedForms_15 {d : Nat} [zGh] (P : zP d) (r15 : zK d) (r3 : zK d) (hr15 : zSim X_X4_makeMovedForms 2 P 15 r15) (hr3 : zSim X_X4_makeMovedForms 2 P 3 r3) : zSim X_X4_makeMovedForms 2 P 15 (lX4_makeMovedForms_15 P r15 r3) := by
  unfold lX4_makeMovedForms_15
  refine sm_iload (pc := 15) (n := 5) dX4_makeMovedForms_15 ?_
  refine sm_aload_n (pc := 17) (n := 0) dX4_makeMovedForms_17 rfl ?_
  refine gf_X4_60 (pc := 18) rfl dX4_makeMovedForms_18 ?_
  refine sm_icmp_ge (pc := 21) (tgt := 53) dX4_makeMovedForms_21 (by decide) ?_ ?_
  · skip
    refine sm_iconst (pc := 53) dX4_makeMovedForms_53 zc_i_0 ?_
    refine sm_istore (pc := 54) (n := 5) dX4_makeMovedForms_54 ?_
    exact sm_loop (fun r56 hr56 => slX4_makeMovedForms_56 P r3 r56 hr3 hr56) _
  · skip
    refine sm_aload_n (pc := 24) (n := 2) dX4_makeMovedForms_24 rfl ?_
    refine sm_aload_n (pc := 25) (n := 0) dX4_makeMovedForms_25 rfl ?_
    refine sm_aload_n (pc := 26) (n := 0) dX4_makeMovedForms_26 rfl ?_
    refine gf_X4_50 (pc := 27) rfl dX4_makeMovedForms_27 ?_
    refine sm_iload (pc := 30) (n := 4) dX4_makeMovedForms_30 ?_
    refine sm_aaload (pc := 32) dX4_makeMovedForms_32 ?_
    refine sm_iload (pc := 33) (n := 5) dX4_makeMovedForms_33 ?_
    refine sm_aload_n (pc := 35) (n := 1) dX4_makeMovedForms_35 rfl ?_
    refine sm_cV (pc := 36) (ci := 4) (n := 4) (mc := 0) (ms := 0) rfl m_X4_codeOf (cr_X4_118 (X := X_X4_makeMovedForms) (fr := 2) (frc := 1) (pc := 36) (mc := 0) (ms := 0) rfl (by decide) dX4_makeMovedForms_36) ?_
    refine sm_aload_n (pc := 39) (n := 0) dX4_makeMovedForms_39 rfl ?_
    refine gf_X4_66 (pc := 40) rfl dX4_makeMovedForms_40 ?_
    refine sm_iload (pc := 43) (n := 5) dX4_makeMovedForms_43 ?_
    refine sm_iaload (pc := 45) dX4_makeMovedForms_45 ?_
    refine sm_iastore (pc := 46) dX4_makeMovedForms_46 ?_
    refine sm_iinc (pc := 47) (n := 5) dX4_makeMovedForms_47 zc_i_1 ?_
    refine sm_goto (pc := 50) (tgt := 15) dX4_makeMovedForms_50 (by decide) ?_
    exact hr15
noncomputable def lX4_makeMovedForms_3 {d : Nat} (P : zP d) (r3 : zK d) : zK d := (xild 4 (xald 0 (xgfI 20 5 (xcmp tge (xvret P) (xpI 0 (xist 5 (xloop (fun r15 => (lX4_makeMovedForms_15 P r15 r3)) 100000)))))))
set_option maxRecDepth 100000 in
set_option maxHeartbeats 4000000 in
theorem slX4_makeMovedForms_3 {d : Nat} [zGh] (P : zP d) (r3 : zK d) (hr3 : zSim X_X4_makeMovedForms 2 P 3 r3) : zSim X_X4_makeMovedForms 2 P 3 (lX4_makeMovedForms_3 P r3) := by
  unfold lX4_makeMovedForms_3
  refine sm_iload (pc := 3) (n := 4) dX4_makeMovedForms_3 ?_
  refine sm_aload_n (pc := 5) (n := 0) dX4_makeMovedForms_5 rfl ?_
  refine gf_X4_39 (pc := 6) rfl dX4_makeMovedForms_6 ?_
  refine sm_icmp_ge (pc := 9) (tgt := 131) dX4_makeMovedForms_9 (by decide) ?_ ?_
  · skip
    exact sm_vreturn (pc := 131) dX4_makeMovedForms_131 rfl
  · skip
    refine sm_iconst (pc := 12) dX4_makeMovedForms_12 zc_i_0 ?_
    refine sm_istore (pc := 13) (n := 5) dX4_makeMovedForms_13 ?_
    exact sm_loop (fun r15 hr15 => slX4_makeMovedForms_15 P r15 r3 hr15 hr3) _
noncomputable def b_X4_makeMovedForms {d : Nat} (P : zP d) : zK d := (xpI 0 (xist 4 (xloop (fun r3 => (lX4_makeMovedForms_3 P r3)) 100000)))
set_option maxRecDepth 100000 in
set_option maxHeartbeats 4000000 in
theorem s_X4_makeMovedForms {d : Nat} [zGh] (P : zP d) : zSim X_X4_makeMovedForms 2 P 0 (b_X4_makeMovedForms P) := by
  unfold b_X4_makeMovedForms
  refine sm_iconst (pc := 0) dX4_makeMovedForms_0 zc_i_0 ?_
  refine sm_istore (pc := 1) (n := 4) dX4_makeMovedForms_1 ?_
  exact sm_loop (fun r3 hr3 => slX4_makeMovedForms_3 P r3 hr3) _
noncomputable def f_X4_makeMovedForms {d : Nat} : List zV → zH d → zP d → Bool := zfn 6 b_X4_makeMovedForms
theorem m_X4_makeMovedForms {d : Nat} : zMet (d := d) X_X4_makeMovedForms yX4_makeMovedForms 2 f_X4_makeMovedForms := zmet_mk (X := X_X4_makeMovedForms) (by decide) rfl rfl s_X4_makeMovedForms

abbrev X_X4_makeForms : zM := (RX4, cX4_makeForms, 5, none, "makeForms")
noncomputable def lX4_makeForms_13 {d : Nat} (P : zP d) (r13 : zK d) (r2 : zK d) : zK d := (xild 4 (xald 0 (xgfI 20 8 (xcmp tge (xinc 3 1 r2) (xald 0 (xgfR 20 11 (xild 3 (xaal (xild 4 (xald 0 (xald 0 (xgfR 20 6 (xild 3 (xaal (xild 4 (xald 1 (xcV 20 4 0 0 f_X4_codeOf (xast1 0 (fun v => v) (xinc 4 1 r13)))))))))))))))))))
set_option maxRecDepth 100000 in
set_option maxHeartbeats 4000000 in
theorem slX4_makeForms_13 {d : Nat} [zGh] (P : zP d) (r13 : zK d) (r2 : zK d) (hr13 : zSim X_X4_makeForms 3 P 13 r13) (hr2 : zSim X_X4_makeForms 3 P 2 r2) : zSim X_X4_makeForms 3 P 13 (lX4_makeForms_13 P r13 r2) := by
  unfold lX4_makeForms_13
  refine sm_iload (pc := 13) (n := 4) dX4_makeForms_13 ?_
  refine sm_aload_n (pc := 15) (n := 0) dX4_makeForms_15 rfl ?_
  refine gf_X4_60 (pc := 16) rfl dX4_makeForms_16 ?_
  refine sm_icmp_ge (pc := 19) (tgt := 50) dX4_makeForms_19 (by decide) ?_ ?_
  · skip
    refine sm_iinc (pc := 50) (n := 3) dX4_makeForms_50 zc_i_1 ?_
    refine sm_goto (pc := 53) (tgt := 2) dX4_makeForms_53 (by decide) ?_
    exact hr2
  · skip
    refine sm_aload_n (pc := 22) (n := 0) dX4_makeForms_22 rfl ?_
    refine gf_X4_86 (pc := 23) rfl dX4_makeForms_23 ?_
    refine sm_iload_n (pc := 26) (n := 3) dX4_makeForms_26 rfl ?_
    refine sm_aaload (pc := 27) dX4_makeForms_27 ?_
    refine sm_iload (pc := 28) (n := 4) dX4_makeForms_28 ?_
    refine sm_aload_n (pc := 30) (n := 0) dX4_makeForms_30 rfl ?_
    refine sm_aload_n (pc := 31) (n := 0) dX4_makeForms_31 rfl ?_
    refine gf_X4_50 (pc := 32) rfl dX4_makeForms_32 ?_
    refine sm_iload_n (pc := 35) (n := 3) dX4_makeForms_35 rfl ?_
    refine sm_aaload (pc := 36) dX4_makeForms_36 ?_
    refine sm_iload (pc := 37) (n := 4) dX4_makeForms_37 ?_
    refine sm_aload_n (pc := 39) (n := 1) dX4_makeForms_39 rfl ?_
    refine sm_cV (pc := 40) (ci := 4) (n := 4) (mc := 0) (ms := 0) rfl m_X4_codeOf (cr_X4_118 (X := X_X4_makeForms) (fr := 3) (frc := 1) (pc := 40) (mc := 0) (ms := 0) rfl (by decide) dX4_makeForms_40) ?_
    refine sm_iastore (pc := 43) dX4_makeForms_43 ?_
    refine sm_iinc (pc := 44) (n := 4) dX4_makeForms_44 zc_i_1 ?_
    refine sm_goto (pc := 47) (tgt := 13) dX4_makeForms_47 (by decide) ?_
    exact hr13
noncomputable def lX4_makeForms_2 {d : Nat} (P : zP d) (r2 : zK d) : zK d := (xild 3 (xald 0 (xgfI 20 5 (xcmp tge (xald 0 (xald 1 (xald 2 (xald 0 (xgfR 20 7 (xcV 20 4 0 0 f_X4_makeMovedForms (xvret P))))))) (xpI 0 (xist 4 (xloop (fun r13 => (lX4_makeForms_13 P r13 r2)) 100000)))))))
set_option maxRecDepth 100000 in
set_option maxHeartbeats 4000000 in
theorem slX4_makeForms_2 {d : Nat} [zGh] (P : zP d) (r2 : zK d) (hr2 : zSim X_X4_makeForms 3 P 2 r2) : zSim X_X4_makeForms 3 P 2 (lX4_makeForms_2 P r2) := by
  unfold lX4_makeForms_2
  refine sm_iload_n (pc := 2) (n := 3) dX4_makeForms_2 rfl ?_
  refine sm_aload_n (pc := 3) (n := 0) dX4_makeForms_3 rfl ?_
  refine gf_X4_39 (pc := 4) rfl dX4_makeForms_4 ?_
  refine sm_icmp_ge (pc := 7) (tgt := 56) dX4_makeForms_7 (by decide) ?_ ?_
  · skip
    refine sm_aload_n (pc := 56) (n := 0) dX4_makeForms_56 rfl ?_
    refine sm_aload_n (pc := 57) (n := 1) dX4_makeForms_57 rfl ?_
    refine sm_aload_n (pc := 58) (n := 2) dX4_makeForms_58 rfl ?_
    refine sm_aload_n (pc := 59) (n := 0) dX4_makeForms_59 rfl ?_
    refine gf_X4_89 (pc := 60) rfl dX4_makeForms_60 ?_
    refine sm_cV (pc := 63) (ci := 4) (n := 4) (mc := 0) (ms := 0) rfl m_X4_makeMovedForms (cr_X4_122 (X := X_X4_makeForms) (fr := 3) (frc := 2) (pc := 63) (mc := 0) (ms := 0) rfl (by decide) dX4_makeForms_63) ?_
    exact sm_vreturn (pc := 66) dX4_makeForms_66 rfl
  · skip
    refine sm_iconst (pc := 10) dX4_makeForms_10 zc_i_0 ?_
    refine sm_istore (pc := 11) (n := 4) dX4_makeForms_11 ?_
    exact sm_loop (fun r13 hr13 => slX4_makeForms_13 P r13 r2 hr13 hr2) _
noncomputable def b_X4_makeForms {d : Nat} (P : zP d) : zK d := (xpI 0 (xist 3 (xloop (fun r2 => (lX4_makeForms_2 P r2)) 100000)))
set_option maxRecDepth 100000 in
set_option maxHeartbeats 4000000 in
theorem s_X4_makeForms {d : Nat} [zGh] (P : zP d) : zSim X_X4_makeForms 3 P 0 (b_X4_makeForms P) := by
  unfold b_X4_makeForms
  refine sm_iconst (pc := 0) dX4_makeForms_0 zc_i_0 ?_
  refine sm_istore_n (pc := 1) (n := 3) dX4_makeForms_1 rfl ?_
  exact sm_loop (fun r2 hr2 => slX4_makeForms_2 P r2 hr2) _
noncomputable def f_X4_makeForms {d : Nat} : List zV → zH d → zP d → Bool := zfn 5 b_X4_makeForms
theorem m_X4_makeForms {d : Nat} : zMet (d := d) X_X4_makeForms yX4_makeForms 3 f_X4_makeForms := zmet_mk (X := X_X4_makeForms) (by decide) rfl rfl s_X4_makeForms

abbrev X_X4_init : zM := (RX4, cX4_init, 4, none, "<init>")
noncomputable def cX4_init_173 {d : Nat} (P : zP d) : zK d := (xgfI 20 5 (xald 0 (xgfI 20 5 (xmnaD 3 0 (xpfR 20 7 (xvret P))))))
set_option maxRecDepth 100000 in
set_option maxHeartbeats 4000000 in
theorem scX4_init_173 {d : Nat} [zGh] (P : zP d) : zSim X_X4_init 10 P 173 (cX4_init_173 P) := by
  unfold cX4_init_173
  refine gf_X4_39 (pc := 173) rfl dX4_init_173 ?_
  refine sm_aload_n (pc := 176) (n := 0) dX4_init_176 rfl ?_
  refine gf_X4_39 (pc := 177) rfl dX4_init_177 ?_
  refine sm_mnaDI (pc := 180) wd_96 wd_46 dX4_init_180 ?_
  refine pf_X4_89 (pc := 184) rfl rfl dX4_init_184 ?_
  exact sm_vreturn (pc := 187) dX4_init_187 rfl
noncomputable def cX4_init_131 {d : Nat} (P : zP d) : zK d := (xpI 0 (xcS 2 0 0 f_J7_fill_53178 (xald 0 (xpI 0 (xpI 0 (xpI 1 (xcV 20 4 0 0 f_X4_fillWays (xald 0 (xild 3 (xpI 1 (xbin zadd (xnwa 0 (xpfR 20 12 (xald 0 (xcV 20 1 0 0 f_X4_weighNumbers (xald 0 (xald 0 (xgfI 20 5 (xald 0 (xgfI 20 8 (xmnaD 3 0 (xpfR 20 11 (xald 0 (xald 0 (cX4_init_173 P)))))))))))))))))))))))))
set_option maxRecDepth 100000 in
set_option maxHeartbeats 4000000 in
theorem scX4_init_131 {d : Nat} [zGh] (P : zP d) : zSim X_X4_init 10 P 131 (cX4_init_131 P) := by
  unfold cX4_init_131
  refine sm_iconst (pc := 131) dX4_init_131 zc_i_0 ?_
  refine sm_cS (pc := 132) (n := 2) (mc := 0) (ms := 0) m_J7_fill_53178 (cr_X4_72 (X := X_X4_init) (fr := 10) (frc := 1) (pc := 132) (mc := 0) (ms := 0) rfl (by decide) dX4_init_132) ?_
  refine sm_aload_n (pc := 135) (n := 0) dX4_init_135 rfl ?_
  refine sm_iconst (pc := 136) dX4_init_136 zc_i_0 ?_
  refine sm_iconst (pc := 137) dX4_init_137 zc_i_0 ?_
  refine sm_iconst (pc := 138) dX4_init_138 zc_i_1 ?_
  refine sm_cV (pc := 139) (ci := 4) (n := 4) (mc := 0) (ms := 0) rfl m_X4_fillWays (cr_X4_76 (X := X_X4_init) (fr := 10) (frc := 9) (pc := 139) (mc := 0) (ms := 0) rfl (by decide) dX4_init_139) ?_
  refine sm_aload_n (pc := 142) (n := 0) dX4_init_142 rfl ?_
  refine sm_iload_n (pc := 143) (n := 3) dX4_init_143 rfl ?_
  refine sm_iconst (pc := 144) dX4_init_144 zc_i_1 ?_
  refine sm_iadd (pc := 145) dX4_init_145 ?_
  refine sm_newI (pc := 146) dX4_init_146 wd_46 ?_
  refine pf_X4_80 (pc := 148) rfl rfl dX4_init_148 ?_
  refine sm_aload_n (pc := 151) (n := 0) dX4_init_151 rfl ?_
  refine sm_cV (pc := 152) (ci := 4) (n := 1) (mc := 0) (ms := 0) rfl m_X4_weighNumbers (cr_X4_83 (X := X_X4_init) (fr := 10) (frc := 1) (pc := 152) (mc := 0) (ms := 0) rfl (by decide) dX4_init_152) ?_
  refine sm_aload_n (pc := 155) (n := 0) dX4_init_155 rfl ?_
  refine sm_aload_n (pc := 156) (n := 0) dX4_init_156 rfl ?_
  refine gf_X4_39 (pc := 157) rfl dX4_init_157 ?_
  refine sm_aload_n (pc := 160) (n := 0) dX4_init_160 rfl ?_
  refine gf_X4_60 (pc := 161) rfl dX4_init_161 ?_
  refine sm_mnaDI (pc := 164) wd_96 wd_46 dX4_init_164 ?_
  refine pf_X4_86 (pc := 168) rfl rfl dX4_init_168 ?_
  refine sm_aload_n (pc := 171) (n := 0) dX4_init_171 rfl ?_
  refine sm_aload_n (pc := 172) (n := 0) dX4_init_172 rfl ?_
  exact scX4_init_173 P
noncomputable def cX4_init_87 {d : Nat} (P : zP d) : zK d := (xpI 0 (xpI 0 (xcV 20 3 0 0 f_X4_fillTableaux (xald 0 (xald 0 (xcV 20 1 0 0 f_X4_countWays (xpfI 20 8 (xald 0 (xald 0 (xgfI 20 8 (xild 3 (xbin zmul (xnwa 0 (xpfR 20 9 (xald 0 (xald 0 (xgfI 20 8 (xnwa 0 (xpfR 20 10 (xald 0 (xpI 0 (xpfI 20 13 (xald 0 (xgfR 20 15 (cX4_init_131 P)))))))))))))))))))))))))
set_option maxRecDepth 100000 in
set_option maxHeartbeats 4000000 in
theorem scX4_init_87 {d : Nat} [zGh] (P : zP d) : zSim X_X4_init 10 P 87 (cX4_init_87 P) := by
  unfold cX4_init_87
  refine sm_iconst (pc := 87) dX4_init_87 zc_i_0 ?_
  refine sm_iconst (pc := 88) dX4_init_88 zc_i_0 ?_
  refine sm_cV (pc := 89) (ci := 4) (n := 3) (mc := 0) (ms := 0) rfl m_X4_fillTableaux (cr_X4_53 (X := X_X4_init) (fr := 10) (frc := 9) (pc := 89) (mc := 0) (ms := 0) rfl (by decide) dX4_init_89) ?_
  refine sm_aload_n (pc := 92) (n := 0) dX4_init_92 rfl ?_
  refine sm_aload_n (pc := 93) (n := 0) dX4_init_93 rfl ?_
  refine sm_cV (pc := 94) (ci := 4) (n := 1) (mc := 0) (ms := 0) rfl m_X4_countWays (cr_X4_57 (X := X_X4_init) (fr := 10) (frc := 2) (pc := 94) (mc := 0) (ms := 0) rfl (by decide) dX4_init_94) ?_
  refine pf_X4_60 (pc := 97) rfl rfl dX4_init_97 ?_
  refine sm_aload_n (pc := 100) (n := 0) dX4_init_100 rfl ?_
  refine sm_aload_n (pc := 101) (n := 0) dX4_init_101 rfl ?_
  refine gf_X4_60 (pc := 102) rfl dX4_init_102 ?_
  refine sm_iload_n (pc := 105) (n := 3) dX4_init_105 rfl ?_
  refine sm_imul (pc := 106) dX4_init_106 ?_
  refine sm_newI (pc := 107) dX4_init_107 wd_46 ?_
  refine pf_X4_63 (pc := 109) rfl rfl dX4_init_109 ?_
  refine sm_aload_n (pc := 112) (n := 0) dX4_init_112 rfl ?_
  refine sm_aload_n (pc := 113) (n := 0) dX4_init_113 rfl ?_
  refine gf_X4_60 (pc := 114) rfl dX4_init_114 ?_
  refine sm_newI (pc := 117) dX4_init_117 wd_46 ?_
  refine pf_X4_66 (pc := 119) rfl rfl dX4_init_119 ?_
  refine sm_aload_n (pc := 122) (n := 0) dX4_init_122 rfl ?_
  refine sm_iconst (pc := 123) dX4_init_123 zc_i_0 ?_
  refine pf_X4_69 (pc := 124) rfl dX4_init_124 ?_
  refine sm_aload_n (pc := 127) (n := 0) dX4_init_127 rfl ?_
  refine gf_X4_45 (pc := 128) rfl dX4_init_128 ?_
  exact scX4_init_131 P
noncomputable def cX4_init_42 {d : Nat} (P : zP d) : zK d := (xpfR 20 4 (xald 0 (xcV 20 1 0 0 f_X4_layOut (xald 0 (xald 0 (xcV 20 1 0 0 f_X4_countTableaux (xpfI 20 5 (xald 0 (xild 3 (xnwa 0 (xpfR 20 14 (xald 0 (xild 3 (xpI 1 (xbin zadd (xnwa 0 (xpfR 20 15 (xald 0 (xald 0 (xgfI 20 5 (xild 3 (xmnaD 3 0 (xpfR 20 6 (xald 0 (cX4_init_87 P)))))))))))))))))))))))))
set_option maxRecDepth 100000 in
set_option maxHeartbeats 4000000 in
theorem scX4_init_42 {d : Nat} [zGh] (P : zP d) : zSim X_X4_init 10 P 42 (cX4_init_42 P) := by
  unfold cX4_init_42
  refine pf_X4_29 (pc := 42) rfl rfl dX4_init_42 ?_
  refine sm_aload_n (pc := 45) (n := 0) dX4_init_45 rfl ?_
  refine sm_cV (pc := 46) (ci := 4) (n := 1) (mc := 0) (ms := 0) rfl m_X4_layOut (cr_X4_32 (X := X_X4_init) (fr := 10) (frc := 1) (pc := 46) (mc := 0) (ms := 0) rfl (by decide) dX4_init_46) ?_
  refine sm_aload_n (pc := 49) (n := 0) dX4_init_49 rfl ?_
  refine sm_aload_n (pc := 50) (n := 0) dX4_init_50 rfl ?_
  refine sm_cV (pc := 51) (ci := 4) (n := 1) (mc := 0) (ms := 0) rfl m_X4_countTableaux (cr_X4_35 (X := X_X4_init) (fr := 10) (frc := 2) (pc := 51) (mc := 0) (ms := 0) rfl (by decide) dX4_init_51) ?_
  refine pf_X4_39 (pc := 54) rfl rfl dX4_init_54 ?_
  refine sm_aload_n (pc := 57) (n := 0) dX4_init_57 rfl ?_
  refine sm_iload_n (pc := 58) (n := 3) dX4_init_58 rfl ?_
  refine sm_newI (pc := 59) dX4_init_59 wd_46 ?_
  refine pf_X4_42 (pc := 61) rfl rfl dX4_init_61 ?_
  refine sm_aload_n (pc := 64) (n := 0) dX4_init_64 rfl ?_
  refine sm_iload_n (pc := 65) (n := 3) dX4_init_65 rfl ?_
  refine sm_iconst (pc := 66) dX4_init_66 zc_i_1 ?_
  refine sm_iadd (pc := 67) dX4_init_67 ?_
  refine sm_newI (pc := 68) dX4_init_68 wd_46 ?_
  refine pf_X4_45 (pc := 70) rfl rfl dX4_init_70 ?_
  refine sm_aload_n (pc := 73) (n := 0) dX4_init_73 rfl ?_
  refine sm_aload_n (pc := 74) (n := 0) dX4_init_74 rfl ?_
  refine gf_X4_39 (pc := 75) rfl dX4_init_75 ?_
  refine sm_iload_n (pc := 78) (n := 3) dX4_init_78 rfl ?_
  refine sm_mnaDI (pc := 79) wd_96 wd_46 dX4_init_79 ?_
  refine pf_X4_50 (pc := 83) rfl rfl dX4_init_83 ?_
  refine sm_aload_n (pc := 86) (n := 0) dX4_init_86 rfl ?_
  exact scX4_init_87 P
noncomputable def b_X4_init {d : Nat} (P : zP d) : zK d := (xald 0 (xobj (xald 0 (xild 3 (xpfI 20 0 (xald 0 (xild 2 (xpfI 20 1 (xald 0 (xald 1 (xild 2 (xcS 2 1 10 f_J7_copyOf_59c91 (xpfR 20 2 (xald 0 (xald 0 (xgfR 20 2 (xpI 0 (xald1 0 (xnwa 0 (xpfR 20 3 (xald 0 (xald 0 (xgfI 20 1 (xnwa 0 (cX4_init_42 P)))))))))))))))))))))))))
set_option maxRecDepth 100000 in
set_option maxHeartbeats 4000000 in
theorem s_X4_init {d : Nat} [zGh] (P : zP d) : zSim X_X4_init 10 P 0 (b_X4_init P) := by
  unfold b_X4_init
  refine sm_aload_n (pc := 0) (n := 0) dX4_init_0 rfl ?_
  refine sm_objinit (pc := 1) wd_64 wd_21 wd_22 (by decide) dX4_init_1 ?_
  refine sm_aload_n (pc := 4) (n := 0) dX4_init_4 rfl ?_
  refine sm_iload_n (pc := 5) (n := 3) dX4_init_5 rfl ?_
  refine pf_X4_7 (pc := 6) rfl rfl dX4_init_6 ?_
  refine sm_aload_n (pc := 9) (n := 0) dX4_init_9 rfl ?_
  refine sm_iload_n (pc := 10) (n := 2) dX4_init_10 rfl ?_
  refine pf_X4_13 (pc := 11) rfl rfl dX4_init_11 ?_
  refine sm_aload_n (pc := 14) (n := 0) dX4_init_14 rfl ?_
  refine sm_aload_n (pc := 15) (n := 1) dX4_init_15 rfl ?_
  refine sm_iload_n (pc := 16) (n := 2) dX4_init_16 rfl ?_
  refine sm_cS (pc := 17) (n := 2) (mc := 1) (ms := 10) m_J7_copyOf_59c91 (cr_X4_16 (X := X_X4_init) (fr := 10) (frc := 1) (pc := 17) (mc := 1) (ms := 10) rfl (by decide) dX4_init_17) ?_
  refine pf_X4_22 (pc := 20) rfl rfl dX4_init_20 ?_
  refine sm_aload_n (pc := 23) (n := 0) dX4_init_23 rfl ?_
  refine sm_aload_n (pc := 24) (n := 0) dX4_init_24 rfl ?_
  refine gf_X4_22 (pc := 25) rfl dX4_init_25 ?_
  refine sm_iconst (pc := 28) dX4_init_28 zc_i_0 ?_
  refine sm_iaload (pc := 29) dX4_init_29 ?_
  refine sm_newI (pc := 30) dX4_init_30 wd_46 ?_
  refine pf_X4_26 (pc := 32) rfl rfl dX4_init_32 ?_
  refine sm_aload_n (pc := 35) (n := 0) dX4_init_35 rfl ?_
  refine sm_aload_n (pc := 36) (n := 0) dX4_init_36 rfl ?_
  refine gf_X4_13 (pc := 37) rfl dX4_init_37 ?_
  refine sm_newI (pc := 40) dX4_init_40 wd_46 ?_
  exact scX4_init_42 P
noncomputable def f_X4_init {d : Nat} : List zV → zH d → zP d → Bool := zfn 4 b_X4_init
theorem m_X4_init {d : Nat} : zMet (d := d) X_X4_init yX4_init 10 f_X4_init := zmet_mk (X := X_X4_init) (by decide) rfl rfl s_X4_init

