section
/-! the class, by program -/
abbrev X_X4_layOut : zM := (RX4, cX4_layOut, 4, none, "layOut")
noncomputable def lX4_layOut_30 {d : Nat} (P : zP d) (r30 : zK d) (r4 : zK d) : zK d := (xild 3 (xald 0 (xgfR 20 2 (xild 2 (xald1 0 (xcmp tge (xinc 2 1 r4) (xald 0 (xgfR 20 3 (xild 3 (xdup2 (xald1 0 (xpI 1 (xbin zadd (xast1 0 (fun v => v) (xinc 3 1 r30)))))))))))))))
set_option maxRecDepth 100000 in
set_option maxHeartbeats 4000000 in
theorem slX4_layOut_30 {d : Nat} [zGh] (P : zP d) (r30 : zK d) (r4 : zK d) (hr30 : zSim X_X4_layOut 1 P 30 r30) (hr4 : zSim X_X4_layOut 1 P 4 r4) : zSim X_X4_layOut 1 P 30 (lX4_layOut_30 P r30 r4) := by
  unfold lX4_layOut_30
  refine sm_iload_n (pc := 30) (n := 3) dX4_layOut_30 rfl ?_
  refine sm_aload_n (pc := 31) (n := 0) dX4_layOut_31 rfl ?_
  refine gf_X4_22 (pc := 32) rfl dX4_layOut_32 ?_
  refine sm_iload_n (pc := 35) (n := 2) dX4_layOut_35 rfl ?_
  refine sm_iaload (pc := 36) dX4_layOut_36 ?_
  refine sm_icmp_ge (pc := 37) (tgt := 56) dX4_layOut_37 (by decide) ?_ ?_
  · skip
    refine sm_iinc (pc := 56) (n := 2) dX4_layOut_56 zc_i_1 ?_
    refine sm_goto (pc := 59) (tgt := 4) dX4_layOut_59 (by decide) ?_
    exact hr4
  · skip
    refine sm_aload_n (pc := 40) (n := 0) dX4_layOut_40 rfl ?_
    refine gf_X4_26 (pc := 41) rfl dX4_layOut_41 ?_
    refine sm_iload_n (pc := 44) (n := 3) dX4_layOut_44 rfl ?_
    refine sm_dup2 (pc := 45) dX4_layOut_45 ?_
    refine sm_iaload (pc := 46) dX4_layOut_46 ?_
    refine sm_iconst (pc := 47) dX4_layOut_47 zc_i_1 ?_
    refine sm_iadd (pc := 48) dX4_layOut_48 ?_
    refine sm_iastore (pc := 49) dX4_layOut_49 ?_
    refine sm_iinc (pc := 50) (n := 3) dX4_layOut_50 zc_i_1 ?_
    refine sm_goto (pc := 53) (tgt := 30) dX4_layOut_53 (by decide) ?_
    exact hr30
noncomputable def lX4_layOut_4 {d : Nat} (P : zP d) (r4 : zK d) : zK d := (xild 2 (xald 0 (xgfI 20 1 (xcmp tge (xvret P) (xald 0 (xgfR 20 4 (xild 2 (xild 1 (xast1 0 (fun v => v) (xild 1 (xald 0 (xgfR 20 2 (xild 2 (xald1 0 (xbin zadd (xist 1 (xpI 0 (xist 3 (xloop (fun r30 => (lX4_layOut_30 P r30 r4)) 100000)))))))))))))))))))
set_option maxRecDepth 100000 in
set_option maxHeartbeats 4000000 in
theorem slX4_layOut_4 {d : Nat} [zGh] (P : zP d) (r4 : zK d) (hr4 : zSim X_X4_layOut 1 P 4 r4) : zSim X_X4_layOut 1 P 4 (lX4_layOut_4 P r4) := by
  unfold lX4_layOut_4
  refine sm_iload_n (pc := 4) (n := 2) dX4_layOut_4 rfl ?_
  refine sm_aload_n (pc := 5) (n := 0) dX4_layOut_5 rfl ?_
  refine gf_X4_13 (pc := 6) rfl dX4_layOut_6 ?_
  refine sm_icmp_ge (pc := 9) (tgt := 62) dX4_layOut_9 (by decide) ?_ ?_
  · skip
    exact sm_vreturn (pc := 62) dX4_layOut_62 rfl
  · skip
    refine sm_aload_n (pc := 12) (n := 0) dX4_layOut_12 rfl ?_
    refine gf_X4_29 (pc := 13) rfl dX4_layOut_13 ?_
    refine sm_iload_n (pc := 16) (n := 2) dX4_layOut_16 rfl ?_
    refine sm_iload_n (pc := 17) (n := 1) dX4_layOut_17 rfl ?_
    refine sm_iastore (pc := 18) dX4_layOut_18 ?_
    refine sm_iload_n (pc := 19) (n := 1) dX4_layOut_19 rfl ?_
    refine sm_aload_n (pc := 20) (n := 0) dX4_layOut_20 rfl ?_
    refine gf_X4_22 (pc := 21) rfl dX4_layOut_21 ?_
    refine sm_iload_n (pc := 24) (n := 2) dX4_layOut_24 rfl ?_
    refine sm_iaload (pc := 25) dX4_layOut_25 ?_
    refine sm_iadd (pc := 26) dX4_layOut_26 ?_
    refine sm_istore_n (pc := 27) (n := 1) dX4_layOut_27 rfl ?_
    refine sm_iconst (pc := 28) dX4_layOut_28 zc_i_0 ?_
    refine sm_istore_n (pc := 29) (n := 3) dX4_layOut_29 rfl ?_
    exact sm_loop (fun r30 hr30 => slX4_layOut_30 P r30 r4 hr30 hr4) _
noncomputable def b_X4_layOut {d : Nat} (P : zP d) : zK d := (xpI 0 (xist 1 (xpI 0 (xist 2 (xloop (fun r4 => (lX4_layOut_4 P r4)) 100000)))))
set_option maxRecDepth 100000 in
set_option maxHeartbeats 4000000 in
theorem s_X4_layOut {d : Nat} [zGh] (P : zP d) : zSim X_X4_layOut 1 P 0 (b_X4_layOut P) := by
  unfold b_X4_layOut
  refine sm_iconst (pc := 0) dX4_layOut_0 zc_i_0 ?_
  refine sm_istore_n (pc := 1) (n := 1) dX4_layOut_1 rfl ?_
  refine sm_iconst (pc := 2) dX4_layOut_2 zc_i_0 ?_
  refine sm_istore_n (pc := 3) (n := 2) dX4_layOut_3 rfl ?_
  exact sm_loop (fun r4 hr4 => slX4_layOut_4 P r4 hr4) _
noncomputable def f_X4_layOut {d : Nat} : List zV → zH d → zP d → Bool := zfn 4 b_X4_layOut
theorem m_X4_layOut {d : Nat} : zMet (d := d) X_X4_layOut yX4_layOut 1 f_X4_layOut := zmet_mk (X := X_X4_layOut) (by decide) rfl rfl s_X4_layOut

abbrev X_X4_hookAt : zM := (RX4, cX4_hookAt, 3, (some .int), "hookAt")
noncomputable def b_X4_hookAt {d : Nat} (P : zP d) : zK d := (xald 0 (xgfR 20 2 (xild 1 (xald1 0 (xild 2 (xbin zsub (xald 0 (xgfR 20 3 (xild 2 (xald1 0 (xbin zadd (xild 1 (xbin zsub (xpI 1 (xbin zsub (xiret P))))))))))))))))
set_option maxRecDepth 100000 in
set_option maxHeartbeats 4000000 in
theorem s_X4_hookAt {d : Nat} [zGh] (P : zP d) : zSim X_X4_hookAt 1 P 0 (b_X4_hookAt P) := by
  unfold b_X4_hookAt
  refine sm_aload_n (pc := 0) (n := 0) dX4_hookAt_0 rfl ?_
  refine gf_X4_22 (pc := 1) rfl dX4_hookAt_1 ?_
  refine sm_iload_n (pc := 4) (n := 1) dX4_hookAt_4 rfl ?_
  refine sm_iaload (pc := 5) dX4_hookAt_5 ?_
  refine sm_iload_n (pc := 6) (n := 2) dX4_hookAt_6 rfl ?_
  refine sm_isub (pc := 7) dX4_hookAt_7 ?_
  refine sm_aload_n (pc := 8) (n := 0) dX4_hookAt_8 rfl ?_
  refine gf_X4_26 (pc := 9) rfl dX4_hookAt_9 ?_
  refine sm_iload_n (pc := 12) (n := 2) dX4_hookAt_12 rfl ?_
  refine sm_iaload (pc := 13) dX4_hookAt_13 ?_
  refine sm_iadd (pc := 14) dX4_hookAt_14 ?_
  refine sm_iload_n (pc := 15) (n := 1) dX4_hookAt_15 rfl ?_
  refine sm_isub (pc := 16) dX4_hookAt_16 ?_
  refine sm_iconst (pc := 17) dX4_hookAt_17 zc_i_1 ?_
  refine sm_isub (pc := 18) dX4_hookAt_18 ?_
  exact sm_ireturn (pc := 19) dX4_hookAt_19 rfl
noncomputable def f_X4_hookAt {d : Nat} : List zV → zH d → zP d → Bool := zfn 3 b_X4_hookAt
theorem m_X4_hookAt {d : Nat} : zMet (d := d) X_X4_hookAt yX4_hookAt 1 f_X4_hookAt := zmet_mk (X := X_X4_hookAt) (by decide) rfl rfl s_X4_hookAt

abbrev X_X4_hasCell : zM := (RX4, cX4_hasCell, 3, (some .boolean), "hasCell")
noncomputable def bX4_hasCell_31 {d : Nat} (P : zP d) : zK d := (xzret P)
set_option maxRecDepth 100000 in
set_option maxHeartbeats 4000000 in
theorem sbX4_hasCell_31 {d : Nat} [zGh] (P : zP d) : zSim X_X4_hasCell 1 P 31 (bX4_hasCell_31 P) := by
  unfold bX4_hasCell_31
  exact sm_zreturn (pc := 31) dX4_hasCell_31 rfl
noncomputable def bX4_hasCell_30 {d : Nat} (P : zP d) (j31 : zK d) : zK d := (xpI 0 j31)
set_option maxRecDepth 100000 in
set_option maxHeartbeats 4000000 in
theorem sbX4_hasCell_30 {d : Nat} [zGh] (P : zP d) (j31 : zK d) (hj31 : zSim X_X4_hasCell 1 P 31 j31) : zSim X_X4_hasCell 1 P 30 (bX4_hasCell_30 P j31) := by
  unfold bX4_hasCell_30
  refine sm_iconst (pc := 30) dX4_hasCell_30 zc_i_0 ?_
  exact hj31
noncomputable def b_X4_hasCell {d : Nat} (P : zP d) : zK d := (xild 1 (xjoin (bX4_hasCell_31 P) (fun j31 => (xjoin (bX4_hasCell_30 P j31) (fun j30 => (xif0 t0ge (xild 1 (xald 0 (xgfI 20 1 (xcmp tge j30 (xild 2 (xif0 t0ge (xild 2 (xald 0 (xgfR 20 2 (xild 1 (xald1 0 (xcmp tge j30 (xpI 1 j31))))))) j30)))))) j30))))))
set_option maxRecDepth 100000 in
set_option maxHeartbeats 4000000 in
theorem s_X4_hasCell {d : Nat} [zGh] (P : zP d) : zSim X_X4_hasCell 1 P 0 (b_X4_hasCell P) := by
  unfold b_X4_hasCell
  refine sm_iload_n (pc := 0) (n := 1) dX4_hasCell_0 rfl ?_
  refine sm_join (pc := 1) (pc' := 31) (sbX4_hasCell_31 P) (fun j31 hj31 => ?_)
  refine sm_join (pc := 1) (pc' := 30) (sbX4_hasCell_30 P j31 hj31) (fun j30 hj30 => ?_)
  refine sm_if_lt (pc := 1) (tgt := 30) dX4_hasCell_1 (by decide) ?_ ?_
  · skip
    exact hj30
  · skip
    refine sm_iload_n (pc := 4) (n := 1) dX4_hasCell_4 rfl ?_
    refine sm_aload_n (pc := 5) (n := 0) dX4_hasCell_5 rfl ?_
    refine gf_X4_13 (pc := 6) rfl dX4_hasCell_6 ?_
    refine sm_icmp_ge (pc := 9) (tgt := 30) dX4_hasCell_9 (by decide) ?_ ?_
    · skip
      exact hj30
    · skip
      refine sm_iload_n (pc := 12) (n := 2) dX4_hasCell_12 rfl ?_
      refine sm_if_lt (pc := 13) (tgt := 30) dX4_hasCell_13 (by decide) ?_ ?_
      · skip
        exact hj30
      · skip
        refine sm_iload_n (pc := 16) (n := 2) dX4_hasCell_16 rfl ?_
        refine sm_aload_n (pc := 17) (n := 0) dX4_hasCell_17 rfl ?_
        refine gf_X4_22 (pc := 18) rfl dX4_hasCell_18 ?_
        refine sm_iload_n (pc := 21) (n := 1) dX4_hasCell_21 rfl ?_
        refine sm_iaload (pc := 22) dX4_hasCell_22 ?_
        refine sm_icmp_ge (pc := 23) (tgt := 30) dX4_hasCell_23 (by decide) ?_ ?_
        · skip
          exact hj30
        · skip
          refine sm_iconst (pc := 26) dX4_hasCell_26 zc_i_1 ?_
          refine sm_goto (pc := 27) (tgt := 31) dX4_hasCell_27 (by decide) ?_
          exact hj31
noncomputable def f_X4_hasCell {d : Nat} : List zV → zH d → zP d → Bool := zfn 3 b_X4_hasCell
theorem m_X4_hasCell {d : Nat} : zMet (d := d) X_X4_hasCell yX4_hasCell 1 f_X4_hasCell := zmet_mk (X := X_X4_hasCell) (by decide) rfl rfl s_X4_hasCell

abbrev X_X4_countTableaux : zM := (RX4, cX4_countTableaux, 4, (some .int), "countTableaux")
noncomputable def bX4_countTableaux_62 {d : Nat} (P : zP d) : zK d := (xiret P)
set_option maxRecDepth 100000 in
set_option maxHeartbeats 4000000 in
theorem sbX4_countTableaux_62 {d : Nat} [zGh] (P : zP d) : zSim X_X4_countTableaux 2 P 62 (bX4_countTableaux_62 P) := by
  unfold bX4_countTableaux_62
  exact sm_ireturn (pc := 62) dX4_countTableaux_62 rfl
noncomputable def lX4_countTableaux_14 {d : Nat} (P : zP d) (r14 : zK d) (r4 : zK d) : zK d := (xild 3 (xald 0 (xgfR 20 2 (xild 2 (xald1 0 (xcmp tge (xinc 2 1 r4) (xild 1 (xald 0 (xild 2 (xild 3 (xcV 20 3 0 0 f_X4_hookAt (xbin zmul (xist 1 (xinc 3 1 r14))))))))))))))
set_option maxRecDepth 100000 in
set_option maxHeartbeats 4000000 in
theorem slX4_countTableaux_14 {d : Nat} [zGh] (P : zP d) (r14 : zK d) (r4 : zK d) (hr14 : zSim X_X4_countTableaux 2 P 14 r14) (hr4 : zSim X_X4_countTableaux 2 P 4 r4) : zSim X_X4_countTableaux 2 P 14 (lX4_countTableaux_14 P r14 r4) := by
  unfold lX4_countTableaux_14
  refine sm_iload_n (pc := 14) (n := 3) dX4_countTableaux_14 rfl ?_
  refine sm_aload_n (pc := 15) (n := 0) dX4_countTableaux_15 rfl ?_
  refine gf_X4_22 (pc := 16) rfl dX4_countTableaux_16 ?_
  refine sm_iload_n (pc := 19) (n := 2) dX4_countTableaux_19 rfl ?_
  refine sm_iaload (pc := 20) dX4_countTableaux_20 ?_
  refine sm_icmp_ge (pc := 21) (tgt := 39) dX4_countTableaux_21 (by decide) ?_ ?_
  · skip
    refine sm_iinc (pc := 39) (n := 2) dX4_countTableaux_39 zc_i_1 ?_
    refine sm_goto (pc := 42) (tgt := 4) dX4_countTableaux_42 (by decide) ?_
    exact hr4
  · skip
    refine sm_iload_n (pc := 24) (n := 1) dX4_countTableaux_24 rfl ?_
    refine sm_aload_n (pc := 25) (n := 0) dX4_countTableaux_25 rfl ?_
    refine sm_iload_n (pc := 26) (n := 2) dX4_countTableaux_26 rfl ?_
    refine sm_iload_n (pc := 27) (n := 3) dX4_countTableaux_27 rfl ?_
    refine sm_cV (pc := 28) (ci := 4) (n := 3) (mc := 0) (ms := 0) rfl m_X4_hookAt (cr_X4_92 (X := X_X4_countTableaux) (fr := 2) (frc := 1) (pc := 28) (mc := 0) (ms := 0) rfl (by decide) dX4_countTableaux_28) ?_
    refine sm_imul (pc := 31) dX4_countTableaux_31 ?_
    refine sm_istore_n (pc := 32) (n := 1) dX4_countTableaux_32 rfl ?_
    refine sm_iinc (pc := 33) (n := 3) dX4_countTableaux_33 zc_i_1 ?_
    refine sm_goto (pc := 36) (tgt := 14) dX4_countTableaux_36 (by decide) ?_
    exact hr14
noncomputable def lX4_countTableaux_4 {d : Nat} (P : zP d) (r4 : zK d) : zK d := (xild 2 (xald 0 (xgfI 20 1 (xcmp tge (xild 1 (xjoin (bX4_countTableaux_62 P) (fun j62 => (xif0 t0le (xpI 0 j62) (xald 0 (xgfI 20 0 (xcS 1 0 0 f_X8_factorialOf (xild 1 (xbinN zdiv j62))))))))) (xpI 0 (xist 3 (xloop (fun r14 => (lX4_countTableaux_14 P r14 r4)) 100000)))))))
set_option maxRecDepth 100000 in
set_option maxHeartbeats 4000000 in
theorem slX4_countTableaux_4 {d : Nat} [zGh] (P : zP d) (r4 : zK d) (hr4 : zSim X_X4_countTableaux 2 P 4 r4) : zSim X_X4_countTableaux 2 P 4 (lX4_countTableaux_4 P r4) := by
  unfold lX4_countTableaux_4
  refine sm_iload_n (pc := 4) (n := 2) dX4_countTableaux_4 rfl ?_
  refine sm_aload_n (pc := 5) (n := 0) dX4_countTableaux_5 rfl ?_
  refine gf_X4_13 (pc := 6) rfl dX4_countTableaux_6 ?_
  refine sm_icmp_ge (pc := 9) (tgt := 45) dX4_countTableaux_9 (by decide) ?_ ?_
  · skip
    refine sm_iload_n (pc := 45) (n := 1) dX4_countTableaux_45 rfl ?_
    refine sm_join (pc := 46) (pc' := 62) (sbX4_countTableaux_62 P) (fun j62 hj62 => ?_)
    refine sm_if_le (pc := 46) (tgt := 61) dX4_countTableaux_46 (by decide) ?_ ?_
    · skip
      refine sm_iconst (pc := 61) dX4_countTableaux_61 zc_i_0 ?_
      exact hj62
    · skip
      refine sm_aload_n (pc := 49) (n := 0) dX4_countTableaux_49 rfl ?_
      refine gf_X4_7 (pc := 50) rfl dX4_countTableaux_50 ?_
      refine sm_cS (pc := 53) (n := 1) (mc := 0) (ms := 0) m_X8_factorialOf (cr_X4_96 (X := X_X4_countTableaux) (fr := 2) (frc := 1) (pc := 53) (mc := 0) (ms := 0) rfl (by decide) dX4_countTableaux_53) ?_
      refine sm_iload_n (pc := 56) (n := 1) dX4_countTableaux_56 rfl ?_
      refine sm_idiv (pc := 57) dX4_countTableaux_57 ?_
      refine sm_goto (pc := 58) (tgt := 62) dX4_countTableaux_58 (by decide) ?_
      exact hj62
  · skip
    refine sm_iconst (pc := 12) dX4_countTableaux_12 zc_i_0 ?_
    refine sm_istore_n (pc := 13) (n := 3) dX4_countTableaux_13 rfl ?_
    exact sm_loop (fun r14 hr14 => slX4_countTableaux_14 P r14 r4 hr14 hr4) _
noncomputable def b_X4_countTableaux {d : Nat} (P : zP d) : zK d := (xpI 1 (xist 1 (xpI 0 (xist 2 (xloop (fun r4 => (lX4_countTableaux_4 P r4)) 100000)))))
set_option maxRecDepth 100000 in
set_option maxHeartbeats 4000000 in
theorem s_X4_countTableaux {d : Nat} [zGh] (P : zP d) : zSim X_X4_countTableaux 2 P 0 (b_X4_countTableaux P) := by
  unfold b_X4_countTableaux
  refine sm_iconst (pc := 0) dX4_countTableaux_0 zc_i_1 ?_
  refine sm_istore_n (pc := 1) (n := 1) dX4_countTableaux_1 rfl ?_
  refine sm_iconst (pc := 2) dX4_countTableaux_2 zc_i_0 ?_
  refine sm_istore_n (pc := 3) (n := 2) dX4_countTableaux_3 rfl ?_
  exact sm_loop (fun r4 hr4 => slX4_countTableaux_4 P r4 hr4) _
noncomputable def f_X4_countTableaux {d : Nat} : List zV → zH d → zP d → Bool := zfn 4 b_X4_countTableaux
theorem m_X4_countTableaux {d : Nat} : zMet (d := d) X_X4_countTableaux yX4_countTableaux 2 f_X4_countTableaux := zmet_mk (X := X_X4_countTableaux) (by decide) rfl rfl s_X4_countTableaux

abbrev X_X4_countWays : zM := (RX4, cX4_countWays, 3, (some .int), "countWays")
noncomputable def lX4_countWays_4 {d : Nat} (P : zP d) (r4 : zK d) : zK d := (xild 2 (xald 0 (xgfR 20 3 (xlen (xcmp tge (xild 1 (xiret P)) (xild 1 (xald 0 (xgfR 20 3 (xild 2 (xald1 0 (xcS 1 0 0 f_X8_factorialOf (xbin zmul (xist 1 (xinc 2 1 r4))))))))))))))
set_option maxRecDepth 100000 in
set_option maxHeartbeats 4000000 in
theorem slX4_countWays_4 {d : Nat} [zGh] (P : zP d) (r4 : zK d) (hr4 : zSim X_X4_countWays 2 P 4 r4) : zSim X_X4_countWays 2 P 4 (lX4_countWays_4 P r4) := by
  unfold lX4_countWays_4
  refine sm_iload_n (pc := 4) (n := 2) dX4_countWays_4 rfl ?_
  refine sm_aload_n (pc := 5) (n := 0) dX4_countWays_5 rfl ?_
  refine gf_X4_26 (pc := 6) rfl dX4_countWays_6 ?_
  refine sm_arraylength (pc := 9) dX4_countWays_9 ?_
  refine sm_icmp_ge (pc := 10) (tgt := 31) dX4_countWays_10 (by decide) ?_ ?_
  · skip
    refine sm_iload_n (pc := 31) (n := 1) dX4_countWays_31 rfl ?_
    exact sm_ireturn (pc := 32) dX4_countWays_32 rfl
  · skip
    refine sm_iload_n (pc := 13) (n := 1) dX4_countWays_13 rfl ?_
    refine sm_aload_n (pc := 14) (n := 0) dX4_countWays_14 rfl ?_
    refine gf_X4_26 (pc := 15) rfl dX4_countWays_15 ?_
    refine sm_iload_n (pc := 18) (n := 2) dX4_countWays_18 rfl ?_
    refine sm_iaload (pc := 19) dX4_countWays_19 ?_
    refine sm_cS (pc := 20) (n := 1) (mc := 0) (ms := 0) m_X8_factorialOf (cr_X4_96 (X := X_X4_countWays) (fr := 2) (frc := 1) (pc := 20) (mc := 0) (ms := 0) rfl (by decide) dX4_countWays_20) ?_
    refine sm_imul (pc := 23) dX4_countWays_23 ?_
    refine sm_istore_n (pc := 24) (n := 1) dX4_countWays_24 rfl ?_
    refine sm_iinc (pc := 25) (n := 2) dX4_countWays_25 zc_i_1 ?_
    refine sm_goto (pc := 28) (tgt := 4) dX4_countWays_28 (by decide) ?_
    exact hr4
noncomputable def b_X4_countWays {d : Nat} (P : zP d) : zK d := (xpI 1 (xist 1 (xpI 0 (xist 2 (xloop (fun r4 => (lX4_countWays_4 P r4)) 100000)))))
set_option maxRecDepth 100000 in
set_option maxHeartbeats 4000000 in
theorem s_X4_countWays {d : Nat} [zGh] (P : zP d) : zSim X_X4_countWays 2 P 0 (b_X4_countWays P) := by
  unfold b_X4_countWays
  refine sm_iconst (pc := 0) dX4_countWays_0 zc_i_1 ?_
  refine sm_istore_n (pc := 1) (n := 1) dX4_countWays_1 rfl ?_
  refine sm_iconst (pc := 2) dX4_countWays_2 zc_i_0 ?_
  refine sm_istore_n (pc := 3) (n := 2) dX4_countWays_3 rfl ?_
  exact sm_loop (fun r4 hr4 => slX4_countWays_4 P r4 hr4) _
noncomputable def f_X4_countWays {d : Nat} : List zV → zH d → zP d → Bool := zfn 3 b_X4_countWays
theorem m_X4_countWays {d : Nat} : zMet (d := d) X_X4_countWays yX4_countWays 2 f_X4_countWays := zmet_mk (X := X_X4_countWays) (by decide) rfl rfl s_X4_countWays

abbrev X_X4_fillTableaux : zM := (RX4, cX4_fillTableaux, 7, none, "fillTableaux")
noncomputable def bX4_fillTableaux_201 {d : Nat} (self : List zV → zH d → zP d → Bool) (P : zP d) (r130 : zK d) : zK d := (xinc 6 1 r130)
set_option maxRecDepth 100000 in
set_option maxHeartbeats 4000000 in
theorem sbX4_fillTableaux_201 {d : Nat} [zGh] (n : Nat) (self : List zV → zH d → zP d → Bool) (hself : zMet X_X4_fillTableaux yX4_fillTableaux (1 + n) self) (P : zP d) (r130 : zK d) (hr130 : zSim X_X4_fillTableaux (1 + (n + 1)) P 130 r130) : zSim X_X4_fillTableaux (1 + (n + 1)) P 201 (bX4_fillTableaux_201 self P r130) := by
  unfold bX4_fillTableaux_201
  refine sm_iinc (pc := 201) (n := 6) dX4_fillTableaux_201 zc_i_1 ?_
  refine sm_goto (pc := 204) (tgt := 130) dX4_fillTableaux_204 (by decide) ?_
  exact hr130
noncomputable def bX4_fillTableaux_190 {d : Nat} (self : List zV → zH d → zP d → Bool) (P : zP d) (j201 : zK d) : zK d := (xcV 20 3 0 0 self (xald 0 (xgfR 20 15 (xild 6 (xpI 0 (xast1 0 (fun v => v) j201))))))
set_option maxRecDepth 100000 in
set_option maxHeartbeats 4000000 in
theorem sbX4_fillTableaux_190 {d : Nat} [zGh] (n : Nat) (self : List zV → zH d → zP d → Bool) (hself : zMet X_X4_fillTableaux yX4_fillTableaux (1 + n) self) (P : zP d) (j201 : zK d) (hj201 : zSim X_X4_fillTableaux (1 + (n + 1)) P 201 j201) : zSim X_X4_fillTableaux (1 + (n + 1)) P 190 (bX4_fillTableaux_190 self P j201) := by
  unfold bX4_fillTableaux_190
  refine sm_cV (pc := 190) (ci := 4) (n := 3) (mc := 0) (ms := 0) rfl hself (cr_X4_53 (X := X_X4_fillTableaux) (fr := 1 + (n + 1)) (frc := 1 + n) (pc := 190) (mc := 0) (ms := 0) rfl (by omega) dX4_fillTableaux_190) ?_
  refine sm_aload_n (pc := 193) (n := 0) dX4_fillTableaux_193 rfl ?_
  refine gf_X4_45 (pc := 194) rfl dX4_fillTableaux_194 ?_
  refine sm_iload (pc := 197) (n := 6) dX4_fillTableaux_197 ?_
  refine sm_iconst (pc := 199) dX4_fillTableaux_199 zc_i_0 ?_
  refine sm_iastore (pc := 200) dX4_fillTableaux_200 ?_
  exact hj201
noncomputable def bX4_fillTableaux_178 {d : Nat} (self : List zV → zH d → zP d → Bool) (P : zP d) (j201 : zK d) : zK d := (xild 5 (xjoin (bX4_fillTableaux_190 self P j201) (fun j190 => (xif0 t0eq (xild 2 (xpI 1 (xbin zadd j190))) (xpI 0 j190)))))
set_option maxRecDepth 100000 in
set_option maxHeartbeats 4000000 in
theorem sbX4_fillTableaux_178 {d : Nat} [zGh] (n : Nat) (self : List zV → zH d → zP d → Bool) (hself : zMet X_X4_fillTableaux yX4_fillTableaux (1 + n) self) (P : zP d) (j201 : zK d) (hj201 : zSim X_X4_fillTableaux (1 + (n + 1)) P 201 j201) : zSim X_X4_fillTableaux (1 + (n + 1)) P 178 (bX4_fillTableaux_178 self P j201) := by
  unfold bX4_fillTableaux_178
  refine sm_iload (pc := 178) (n := 5) dX4_fillTableaux_178 ?_
  refine sm_join (pc := 180) (pc' := 190) (sbX4_fillTableaux_190 n self hself P j201 hj201) (fun j190 hj190 => ?_)
  refine sm_if_eq (pc := 180) (tgt := 187) dX4_fillTableaux_180 (by decide) ?_ ?_
  · skip
    refine sm_iload_n (pc := 187) (n := 2) dX4_fillTableaux_187 rfl ?_
    refine sm_iconst (pc := 188) dX4_fillTableaux_188 zc_i_1 ?_
    refine sm_iadd (pc := 189) dX4_fillTableaux_189 ?_
    exact hj190
  · skip
    refine sm_iconst (pc := 183) dX4_fillTableaux_183 zc_i_0 ?_
    refine sm_goto (pc := 184) (tgt := 190) dX4_fillTableaux_184 (by decide) ?_
    exact hj190
noncomputable def cX4_fillTableaux_173 {d : Nat} (self : List zV → zH d → zP d → Bool) (P : zP d) (j178 : zK d) : zK d := (xbin zadd j178)
set_option maxRecDepth 100000 in
set_option maxHeartbeats 4000000 in
theorem scX4_fillTableaux_173 {d : Nat} [zGh] (n : Nat) (self : List zV → zH d → zP d → Bool) (hself : zMet X_X4_fillTableaux yX4_fillTableaux (1 + n) self) (P : zP d) (j178 : zK d) (hj178 : zSim X_X4_fillTableaux (1 + (n + 1)) P 178 j178) : zSim X_X4_fillTableaux (1 + (n + 1)) P 173 (cX4_fillTableaux_173 self P j178) := by
  unfold cX4_fillTableaux_173
  refine sm_iadd (pc := 173) dX4_fillTableaux_173 ?_
  refine sm_goto (pc := 174) (tgt := 178) dX4_fillTableaux_174 (by decide) ?_
  exact hj178
noncomputable def lX4_fillTableaux_130 {d : Nat} (self : List zV → zH d → zP d → Bool) (P : zP d) (r130 : zK d) : zK d := (xild 6 (xald 0 (xgfI 20 0 (xcmp tle (xald 0 (xgfR 20 15 (xild 6 (xald1 0 (xjoin (bX4_fillTableaux_201 self P r130) (fun j201 => (xif0 t0eq (xald 0 (xgfR 20 15 (xild 6 (xpI 1 (xast1 0 (fun v => v) (xald 0 (xgfR 20 14 (xild 3 (xild 6 (xast1 0 (fun v => v) (xald 0 (xild 5 (xjoin (bX4_fillTableaux_178 self P j201) (fun j178 => (xif0 t0eq (xild 1 j178) (xild 1 (xpI 1 (cX4_fillTableaux_173 self P j178)))))))))))))))))) j201))))))) (xvret P)))))
set_option maxRecDepth 100000 in
set_option maxHeartbeats 4000000 in
theorem slX4_fillTableaux_130 {d : Nat} [zGh] (n : Nat) (self : List zV → zH d → zP d → Bool) (hself : zMet X_X4_fillTableaux yX4_fillTableaux (1 + n) self) (P : zP d) (r130 : zK d) (hr130 : zSim X_X4_fillTableaux (1 + (n + 1)) P 130 r130) : zSim X_X4_fillTableaux (1 + (n + 1)) P 130 (lX4_fillTableaux_130 self P r130) := by
  unfold lX4_fillTableaux_130
  refine sm_iload (pc := 130) (n := 6) dX4_fillTableaux_130 ?_
  refine sm_aload_n (pc := 132) (n := 0) dX4_fillTableaux_132 rfl ?_
  refine gf_X4_7 (pc := 133) rfl dX4_fillTableaux_133 ?_
  refine sm_icmp_gt (pc := 136) (tgt := 207) dX4_fillTableaux_136 (by decide) ?_ ?_
  · skip
    exact sm_vreturn (pc := 207) dX4_fillTableaux_207 rfl
  · skip
    refine sm_aload_n (pc := 139) (n := 0) dX4_fillTableaux_139 rfl ?_
    refine gf_X4_45 (pc := 140) rfl dX4_fillTableaux_140 ?_
    refine sm_iload (pc := 143) (n := 6) dX4_fillTableaux_143 ?_
    refine sm_iaload (pc := 145) dX4_fillTableaux_145 ?_
    refine sm_join (pc := 146) (pc' := 201) (sbX4_fillTableaux_201 n self hself P r130 hr130) (fun j201 hj201 => ?_)
    refine sm_if_ne (pc := 146) (tgt := 201) dX4_fillTableaux_146 (by decide) ?_ ?_
    · skip
      exact hj201
    · skip
      refine sm_aload_n (pc := 149) (n := 0) dX4_fillTableaux_149 rfl ?_
      refine gf_X4_45 (pc := 150) rfl dX4_fillTableaux_150 ?_
      refine sm_iload (pc := 153) (n := 6) dX4_fillTableaux_153 ?_
      refine sm_iconst (pc := 155) dX4_fillTableaux_155 zc_i_1 ?_
      refine sm_iastore (pc := 156) dX4_fillTableaux_156 ?_
      refine sm_aload_n (pc := 157) (n := 0) dX4_fillTableaux_157 rfl ?_
      refine gf_X4_42 (pc := 158) rfl dX4_fillTableaux_158 ?_
      refine sm_iload_n (pc := 161) (n := 3) dX4_fillTableaux_161 rfl ?_
      refine sm_iload (pc := 162) (n := 6) dX4_fillTableaux_162 ?_
      refine sm_iastore (pc := 164) dX4_fillTableaux_164 ?_
      refine sm_aload_n (pc := 165) (n := 0) dX4_fillTableaux_165 rfl ?_
      refine sm_iload (pc := 166) (n := 5) dX4_fillTableaux_166 ?_
      refine sm_join (pc := 168) (pc' := 178) (sbX4_fillTableaux_178 n self hself P j201 hj201) (fun j178 hj178 => ?_)
      refine sm_if_eq (pc := 168) (tgt := 177) dX4_fillTableaux_168 (by decide) ?_ ?_
      · skip
        refine sm_iload_n (pc := 177) (n := 1) dX4_fillTableaux_177 rfl ?_
        exact hj178
      · skip
        refine sm_iload_n (pc := 171) (n := 1) dX4_fillTableaux_171 rfl ?_
        refine sm_iconst (pc := 172) dX4_fillTableaux_172 zc_i_1 ?_
        exact scX4_fillTableaux_173 n self hself P j178 hj178
noncomputable def bX4_fillTableaux_122 {d : Nat} (self : List zV → zH d → zP d → Bool) (P : zP d) : zK d := (xist 5 (xild 4 (xpI 1 (xbin zadd (xist 6 (xloop (fun r130 => (lX4_fillTableaux_130 self P r130)) 100000))))))
set_option maxRecDepth 100000 in
set_option maxHeartbeats 4000000 in
theorem sbX4_fillTableaux_122 {d : Nat} [zGh] (n : Nat) (self : List zV → zH d → zP d → Bool) (hself : zMet X_X4_fillTableaux yX4_fillTableaux (1 + n) self) (P : zP d) : zSim X_X4_fillTableaux (1 + (n + 1)) P 122 (bX4_fillTableaux_122 self P) := by
  unfold bX4_fillTableaux_122
  refine sm_istore (pc := 122) (n := 5) dX4_fillTableaux_122 ?_
  refine sm_iload (pc := 124) (n := 4) dX4_fillTableaux_124 ?_
  refine sm_iconst (pc := 126) dX4_fillTableaux_126 zc_i_1 ?_
  refine sm_iadd (pc := 127) dX4_fillTableaux_127 ?_
  refine sm_istore (pc := 128) (n := 6) dX4_fillTableaux_128 ?_
  exact sm_loop (fun r130 hr130 => slX4_fillTableaux_130 n self hself P r130 hr130) _
noncomputable def bX4_fillTableaux_105 {d : Nat} (self : List zV → zH d → zP d → Bool) (P : zP d) : zK d := (xild 2 (xpI 1 (xbin zadd (xald 0 (xgfR 20 2 (xild 1 (xald1 0 (xjoin (bX4_fillTableaux_122 self P) (fun j122 => (xcmp Nat.beq (xpI 1 j122) (xpI 0 j122)))))))))))
set_option maxRecDepth 100000 in
set_option maxHeartbeats 4000000 in
theorem sbX4_fillTableaux_105 {d : Nat} [zGh] (n : Nat) (self : List zV → zH d → zP d → Bool) (hself : zMet X_X4_fillTableaux yX4_fillTableaux (1 + n) self) (P : zP d) : zSim X_X4_fillTableaux (1 + (n + 1)) P 105 (bX4_fillTableaux_105 self P) := by
  unfold bX4_fillTableaux_105
  refine sm_iload_n (pc := 105) (n := 2) dX4_fillTableaux_105 rfl ?_
  refine sm_iconst (pc := 106) dX4_fillTableaux_106 zc_i_1 ?_
  refine sm_iadd (pc := 107) dX4_fillTableaux_107 ?_
  refine sm_aload_n (pc := 108) (n := 0) dX4_fillTableaux_108 rfl ?_
  refine gf_X4_22 (pc := 109) rfl dX4_fillTableaux_109 ?_
  refine sm_iload_n (pc := 112) (n := 1) dX4_fillTableaux_112 rfl ?_
  refine sm_iaload (pc := 113) dX4_fillTableaux_113 ?_
  refine sm_join (pc := 114) (pc' := 122) (sbX4_fillTableaux_122 n self hself P) (fun j122 hj122 => ?_)
  refine sm_icmp_ne (pc := 114) (tgt := 121) dX4_fillTableaux_114 (by decide) ?_ ?_
  · skip
    refine sm_iconst (pc := 121) dX4_fillTableaux_121 zc_i_0 ?_
    exact hj122
  · skip
    refine sm_iconst (pc := 117) dX4_fillTableaux_117 zc_i_1 ?_
    refine sm_goto (pc := 118) (tgt := 122) dX4_fillTableaux_118 (by decide) ?_
    exact hj122
noncomputable def bX4_fillTableaux_77 {d : Nat} (self : List zV → zH d → zP d → Bool) (P : zP d) : zK d := (xist 4 (xild 1 (xjoin (bX4_fillTableaux_105 self P) (fun j105 => (xif0 t0le j105 (xild 4 (xald 0 (xgfR 20 14 (xald 0 (xgfR 20 4 (xild 1 (xpI 1 (xbin zsub (xald1 0 (xild 2 (xbin zadd (xald1 0 (xmm zmax (xist 4 j105)))))))))))))))))))
set_option maxRecDepth 100000 in
set_option maxHeartbeats 4000000 in
theorem sbX4_fillTableaux_77 {d : Nat} [zGh] (n : Nat) (self : List zV → zH d → zP d → Bool) (hself : zMet X_X4_fillTableaux yX4_fillTableaux (1 + n) self) (P : zP d) : zSim X_X4_fillTableaux (1 + (n + 1)) P 77 (bX4_fillTableaux_77 self P) := by
  unfold bX4_fillTableaux_77
  refine sm_istore (pc := 77) (n := 4) dX4_fillTableaux_77 ?_
  refine sm_iload_n (pc := 79) (n := 1) dX4_fillTableaux_79 rfl ?_
  refine sm_join (pc := 80) (pc' := 105) (sbX4_fillTableaux_105 n self hself P) (fun j105 hj105 => ?_)
  refine sm_if_le (pc := 80) (tgt := 105) dX4_fillTableaux_80 (by decide) ?_ ?_
  · skip
    exact hj105
  · skip
    refine sm_iload (pc := 83) (n := 4) dX4_fillTableaux_83 ?_
    refine sm_aload_n (pc := 85) (n := 0) dX4_fillTableaux_85 rfl ?_
    refine gf_X4_42 (pc := 86) rfl dX4_fillTableaux_86 ?_
    refine sm_aload_n (pc := 89) (n := 0) dX4_fillTableaux_89 rfl ?_
    refine gf_X4_29 (pc := 90) rfl dX4_fillTableaux_90 ?_
    refine sm_iload_n (pc := 93) (n := 1) dX4_fillTableaux_93 rfl ?_
    refine sm_iconst (pc := 94) dX4_fillTableaux_94 zc_i_1 ?_
    refine sm_isub (pc := 95) dX4_fillTableaux_95 ?_
    refine sm_iaload (pc := 96) dX4_fillTableaux_96 ?_
    refine sm_iload_n (pc := 97) (n := 2) dX4_fillTableaux_97 rfl ?_
    refine sm_iadd (pc := 98) dX4_fillTableaux_98 ?_
    refine sm_iaload (pc := 99) dX4_fillTableaux_99 ?_
    refine sm_mmax (pc := 100) wd_103 wd_104 wd_6 wd_105 (by omega) dX4_fillTableaux_100 ?_
    refine sm_istore (pc := 103) (n := 4) dX4_fillTableaux_103 ?_
    exact hj105
noncomputable def bX4_fillTableaux_51 {d : Nat} (self : List zV → zH d → zP d → Bool) (P : zP d) : zK d := (xvret P)
set_option maxRecDepth 100000 in
set_option maxHeartbeats 4000000 in
theorem sbX4_fillTableaux_51 {d : Nat} [zGh] (n : Nat) (self : List zV → zH d → zP d → Bool) (hself : zMet X_X4_fillTableaux yX4_fillTableaux (1 + n) self) (P : zP d) : zSim X_X4_fillTableaux (1 + (n + 1)) P 51 (bX4_fillTableaux_51 self P) := by
  unfold bX4_fillTableaux_51
  exact sm_vreturn (pc := 51) dX4_fillTableaux_51 rfl
noncomputable def cX4_fillTableaux_46 {d : Nat} (self : List zV → zH d → zP d → Bool) (P : zP d) (j51 : zK d) : zK d := (xpI 1 (xbin zadd (xpfI 20 13 j51)))
set_option maxRecDepth 100000 in
set_option maxHeartbeats 4000000 in
theorem scX4_fillTableaux_46 {d : Nat} [zGh] (n : Nat) (self : List zV → zH d → zP d → Bool) (hself : zMet X_X4_fillTableaux yX4_fillTableaux (1 + n) self) (P : zP d) (j51 : zK d) (hj51 : zSim X_X4_fillTableaux (1 + (n + 1)) P 51 j51) : zSim X_X4_fillTableaux (1 + (n + 1)) P 46 (cX4_fillTableaux_46 self P j51) := by
  unfold cX4_fillTableaux_46
  refine sm_iconst (pc := 46) dX4_fillTableaux_46 zc_i_1 ?_
  refine sm_iadd (pc := 47) dX4_fillTableaux_47 ?_
  refine pf_X4_69 (pc := 48) rfl dX4_fillTableaux_48 ?_
  exact hj51
noncomputable def b_X4_fillTableaux {d : Nat} (self : List zV → zH d → zP d → Bool) (P : zP d) : zK d := (xild 1 (xald 0 (xgfI 20 1 (xcmp tge (xald 0 (xgfI 20 13 (xald 0 (xgfI 20 5 (xjoin (bX4_fillTableaux_51 self P) (fun j51 => (xcmp tge j51 (xald 0 (xgfR 20 14 (xpI 0 (xald 0 (xgfR 20 6 (xald 0 (xgfI 20 13 (xaal (xpI 0 (xald 0 (xgfI 20 0 (xcpy 0 40 (xald 0 (xdup (xgfI 20 13 (cX4_fillTableaux_46 self P j51))))))))))))))))))))))) (xald 0 (xgfR 20 4 (xild 1 (xald1 0 (xild 2 (xbin zadd (xist 3 (xild 2 (xjoin (bX4_fillTableaux_77 self P) (fun j77 => (xif0 t0le (xpI 0 j77) (xald 0 (xgfR 20 14 (xild 3 (xpI 1 (xbin zsub (xald1 0 j77)))))))))))))))))))))
set_option maxRecDepth 100000 in
set_option maxHeartbeats 4000000 in
theorem s_X4_fillTableaux {d : Nat} [zGh] (n : Nat) (self : List zV → zH d → zP d → Bool) (hself : zMet X_X4_fillTableaux yX4_fillTableaux (1 + n) self) (P : zP d) : zSim X_X4_fillTableaux (1 + (n + 1)) P 0 (b_X4_fillTableaux self P) := by
  unfold b_X4_fillTableaux
  refine sm_iload_n (pc := 0) (n := 1) dX4_fillTableaux_0 rfl ?_
  refine sm_aload_n (pc := 1) (n := 0) dX4_fillTableaux_1 rfl ?_
  refine gf_X4_13 (pc := 2) rfl dX4_fillTableaux_2 ?_
  refine sm_icmp_lt (pc := 5) (tgt := 52) dX4_fillTableaux_5 (by decide) ?_ ?_
  · skip
    refine sm_aload_n (pc := 52) (n := 0) dX4_fillTableaux_52 rfl ?_
    refine gf_X4_29 (pc := 53) rfl dX4_fillTableaux_53 ?_
    refine sm_iload_n (pc := 56) (n := 1) dX4_fillTableaux_56 rfl ?_
    refine sm_iaload (pc := 57) dX4_fillTableaux_57 ?_
    refine sm_iload_n (pc := 58) (n := 2) dX4_fillTableaux_58 rfl ?_
    refine sm_iadd (pc := 59) dX4_fillTableaux_59 ?_
    refine sm_istore_n (pc := 60) (n := 3) dX4_fillTableaux_60 rfl ?_
    refine sm_iload_n (pc := 61) (n := 2) dX4_fillTableaux_61 rfl ?_
    refine sm_join (pc := 62) (pc' := 77) (sbX4_fillTableaux_77 n self hself P) (fun j77 hj77 => ?_)
    refine sm_if_le (pc := 62) (tgt := 76) dX4_fillTableaux_62 (by decide) ?_ ?_
    · skip
      refine sm_iconst (pc := 76) dX4_fillTableaux_76 zc_i_0 ?_
      exact hj77
    · skip
      refine sm_aload_n (pc := 65) (n := 0) dX4_fillTableaux_65 rfl ?_
      refine gf_X4_42 (pc := 66) rfl dX4_fillTableaux_66 ?_
      refine sm_iload_n (pc := 69) (n := 3) dX4_fillTableaux_69 rfl ?_
      refine sm_iconst (pc := 70) dX4_fillTableaux_70 zc_i_1 ?_
      refine sm_isub (pc := 71) dX4_fillTableaux_71 ?_
      refine sm_iaload (pc := 72) dX4_fillTableaux_72 ?_
      refine sm_goto (pc := 73) (tgt := 77) dX4_fillTableaux_73 (by decide) ?_
      exact hj77
  · skip
    refine sm_aload_n (pc := 8) (n := 0) dX4_fillTableaux_8 rfl ?_
    refine gf_X4_69 (pc := 9) rfl dX4_fillTableaux_9 ?_
    refine sm_aload_n (pc := 12) (n := 0) dX4_fillTableaux_12 rfl ?_
    refine gf_X4_39 (pc := 13) rfl dX4_fillTableaux_13 ?_
    refine sm_join (pc := 16) (pc' := 51) (sbX4_fillTableaux_51 n self hself P) (fun j51 hj51 => ?_)
    refine sm_icmp_ge (pc := 16) (tgt := 51) dX4_fillTableaux_16 (by decide) ?_ ?_
    · skip
      exact hj51
    · skip
      refine sm_aload_n (pc := 19) (n := 0) dX4_fillTableaux_19 rfl ?_
      refine gf_X4_42 (pc := 20) rfl dX4_fillTableaux_20 ?_
      refine sm_iconst (pc := 23) dX4_fillTableaux_23 zc_i_0 ?_
      refine sm_aload_n (pc := 24) (n := 0) dX4_fillTableaux_24 rfl ?_
      refine gf_X4_50 (pc := 25) rfl dX4_fillTableaux_25 ?_
      refine sm_aload_n (pc := 28) (n := 0) dX4_fillTableaux_28 rfl ?_
      refine gf_X4_69 (pc := 29) rfl dX4_fillTableaux_29 ?_
      refine sm_aaload (pc := 32) dX4_fillTableaux_32 ?_
      refine sm_iconst (pc := 33) dX4_fillTableaux_33 zc_i_0 ?_
      refine sm_aload_n (pc := 34) (n := 0) dX4_fillTableaux_34 rfl ?_
      refine gf_X4_7 (pc := 35) rfl dX4_fillTableaux_35 ?_
      refine sm_copyI (pc := 38) wd_102 wd_80 wd_79 wd_7 (by omega) dX4_fillTableaux_38 ?_
      refine sm_aload_n (pc := 41) (n := 0) dX4_fillTableaux_41 rfl ?_
      refine sm_dup (pc := 42) dX4_fillTableaux_42 ?_
      refine gf_X4_69 (pc := 43) rfl dX4_fillTableaux_43 ?_
      exact scX4_fillTableaux_46 n self hself P j51 hj51
noncomputable def f_X4_fillTableaux {d : Nat} : List zV → zH d → zP d → Bool := zrec 7 b_X4_fillTableaux 8
theorem m_X4_fillTableaux {d : Nat} : zMet (d := d) X_X4_fillTableaux yX4_fillTableaux 9 f_X4_fillTableaux := zmet_rec (X := X_X4_fillTableaux) (fr := 1) (by decide) rfl rfl (fun n f hf _ P => s_X4_fillTableaux n f hf P) 8

abbrev X_X4_fillWays : zM := (RX4, cX4_fillWays, 7, none, "fillWays")
noncomputable def bX4_fillWays_210 {d : Nat} (self : List zV → zH d → zP d → Bool) (P : zP d) (r87 : zK d) : zK d := (xinc 5 1 r87)
set_option maxRecDepth 100000 in
set_option maxHeartbeats 4000000 in
theorem sbX4_fillWays_210 {d : Nat} [zGh] (n : Nat) (self : List zV → zH d → zP d → Bool) (hself : zMet X_X4_fillWays yX4_fillWays (1 + n) self) (P : zP d) (r87 : zK d) (hr87 : zSim X_X4_fillWays (1 + (n + 1)) P 87 r87) : zSim X_X4_fillWays (1 + (n + 1)) P 210 (bX4_fillWays_210 self P r87) := by
  unfold bX4_fillWays_210
  refine sm_iinc (pc := 210) (n := 5) dX4_fillWays_210 zc_i_1 ?_
  refine sm_goto (pc := 213) (tgt := 87) dX4_fillWays_213 (by decide) ?_
  exact hr87
noncomputable def bX4_fillWays_192 {d : Nat} (self : List zV → zH d → zP d → Bool) (P : zP d) (j210 : zK d) : zK d := (xcV 20 4 0 0 self (xald 0 (xgfR 20 15 (xild 2 (xdup2 (xald1 0 (xpI 1 (xild 5 (xbin zshl (xpI 4294967295 (xbin zxor (xbin zand (xast1 0 (fun v => v) j210)))))))))))))
set_option maxRecDepth 100000 in
set_option maxHeartbeats 4000000 in
theorem sbX4_fillWays_192 {d : Nat} [zGh] (n : Nat) (self : List zV → zH d → zP d → Bool) (hself : zMet X_X4_fillWays yX4_fillWays (1 + n) self) (P : zP d) (j210 : zK d) (hj210 : zSim X_X4_fillWays (1 + (n + 1)) P 210 j210) : zSim X_X4_fillWays (1 + (n + 1)) P 192 (bX4_fillWays_192 self P j210) := by
  unfold bX4_fillWays_192
  refine sm_cV (pc := 192) (ci := 4) (n := 4) (mc := 0) (ms := 0) rfl hself (cr_X4_76 (X := X_X4_fillWays) (fr := 1 + (n + 1)) (frc := 1 + n) (pc := 192) (mc := 0) (ms := 0) rfl (by omega) dX4_fillWays_192) ?_
  refine sm_aload_n (pc := 195) (n := 0) dX4_fillWays_195 rfl ?_
  refine gf_X4_45 (pc := 196) rfl dX4_fillWays_196 ?_
  refine sm_iload_n (pc := 199) (n := 2) dX4_fillWays_199 rfl ?_
  refine sm_dup2 (pc := 200) dX4_fillWays_200 ?_
  refine sm_iaload (pc := 201) dX4_fillWays_201 ?_
  refine sm_iconst (pc := 202) dX4_fillWays_202 zc_i_1 ?_
  refine sm_iload (pc := 203) (n := 5) dX4_fillWays_203 ?_
  refine sm_ishl (pc := 205) dX4_fillWays_205 ?_
  refine sm_iconst (pc := 206) dX4_fillWays_206 zc_i_m1 ?_
  refine sm_ixor (pc := 207) dX4_fillWays_207 ?_
  refine sm_iand (pc := 208) dX4_fillWays_208 ?_
  refine sm_iastore (pc := 209) dX4_fillWays_209 ?_
  exact hj210
noncomputable def bX4_fillWays_179 {d : Nat} (self : List zV → zH d → zP d → Bool) (P : zP d) (j210 : zK d) : zK d := (xild 6 (xpI 2 (xbinN zrem (xjoin (bX4_fillWays_192 self P j210) (fun j192 => (xif0 t0eq (xild 3 j192) (xild 3 (xun zneg j192))))))))
set_option maxRecDepth 100000 in
set_option maxHeartbeats 4000000 in
theorem sbX4_fillWays_179 {d : Nat} [zGh] (n : Nat) (self : List zV → zH d → zP d → Bool) (hself : zMet X_X4_fillWays yX4_fillWays (1 + n) self) (P : zP d) (j210 : zK d) (hj210 : zSim X_X4_fillWays (1 + (n + 1)) P 210 j210) : zSim X_X4_fillWays (1 + (n + 1)) P 179 (bX4_fillWays_179 self P j210) := by
  unfold bX4_fillWays_179
  refine sm_iload (pc := 179) (n := 6) dX4_fillWays_179 ?_
  refine sm_iconst (pc := 181) dX4_fillWays_181 zc_i_2 ?_
  refine sm_irem (pc := 182) dX4_fillWays_182 ?_
  refine sm_join (pc := 183) (pc' := 192) (sbX4_fillWays_192 n self hself P j210 hj210) (fun j192 hj192 => ?_)
  refine sm_if_ne (pc := 183) (tgt := 190) dX4_fillWays_183 (by decide) ?_ ?_
  · skip
    refine sm_iload_n (pc := 190) (n := 3) dX4_fillWays_190 rfl ?_
    refine sm_ineg (pc := 191) dX4_fillWays_191 ?_
    exact hj192
  · skip
    refine sm_iload_n (pc := 186) (n := 3) dX4_fillWays_186 rfl ?_
    refine sm_goto (pc := 187) (tgt := 192) dX4_fillWays_187 (by decide) ?_
    exact hj192
noncomputable def bX4_fillWays_167 {d : Nat} (self : List zV → zH d → zP d → Bool) (P : zP d) (j210 : zK d) : zK d := (xild 4 (xjoin (bX4_fillWays_179 self P j210) (fun j179 => (xif0 t0eq (xild 2 (xpI 1 (xbin zadd j179))) (xpI 0 j179)))))
set_option maxRecDepth 100000 in
set_option maxHeartbeats 4000000 in
theorem sbX4_fillWays_167 {d : Nat} [zGh] (n : Nat) (self : List zV → zH d → zP d → Bool) (hself : zMet X_X4_fillWays yX4_fillWays (1 + n) self) (P : zP d) (j210 : zK d) (hj210 : zSim X_X4_fillWays (1 + (n + 1)) P 210 j210) : zSim X_X4_fillWays (1 + (n + 1)) P 167 (bX4_fillWays_167 self P j210) := by
  unfold bX4_fillWays_167
  refine sm_iload (pc := 167) (n := 4) dX4_fillWays_167 ?_
  refine sm_join (pc := 169) (pc' := 179) (sbX4_fillWays_179 n self hself P j210 hj210) (fun j179 hj179 => ?_)
  refine sm_if_eq (pc := 169) (tgt := 176) dX4_fillWays_169 (by decide) ?_ ?_
  · skip
    refine sm_iload_n (pc := 176) (n := 2) dX4_fillWays_176 rfl ?_
    refine sm_iconst (pc := 177) dX4_fillWays_177 zc_i_1 ?_
    refine sm_iadd (pc := 178) dX4_fillWays_178 ?_
    exact hj179
  · skip
    refine sm_iconst (pc := 172) dX4_fillWays_172 zc_i_0 ?_
    refine sm_goto (pc := 173) (tgt := 179) dX4_fillWays_173 (by decide) ?_
    exact hj179
noncomputable def cX4_fillWays_162 {d : Nat} (self : List zV → zH d → zP d → Bool) (P : zP d) (j167 : zK d) : zK d := (xbin zadd j167)
set_option maxRecDepth 100000 in
set_option maxHeartbeats 4000000 in
theorem scX4_fillWays_162 {d : Nat} [zGh] (n : Nat) (self : List zV → zH d → zP d → Bool) (hself : zMet X_X4_fillWays yX4_fillWays (1 + n) self) (P : zP d) (j167 : zK d) (hj167 : zSim X_X4_fillWays (1 + (n + 1)) P 167 j167) : zSim X_X4_fillWays (1 + (n + 1)) P 162 (cX4_fillWays_162 self P j167) := by
  unfold cX4_fillWays_162
  refine sm_iadd (pc := 162) dX4_fillWays_162 ?_
  refine sm_goto (pc := 163) (tgt := 167) dX4_fillWays_163 (by decide) ?_
  exact hj167
noncomputable def cX4_fillWays_127 {d : Nat} (self : List zV → zH d → zP d → Bool) (P : zP d) (j210 : zK d) : zK d := (xgfR 20 15 (xild 2 (xdup2 (xald1 0 (xpI 1 (xild 5 (xbin zshl (xbin zor (xast1 0 (fun v => v) (xald 0 (xgfR 20 14 (xald 0 (xgfR 20 4 (xild 1 (xald1 0 (xild 2 (xbin zadd (xild 5 (xast1 0 (fun v => v) (xald 0 (xild 4 (xjoin (bX4_fillWays_167 self P j210) (fun j167 => (xif0 t0eq (xild 1 j167) (xild 1 (xpI 1 (cX4_fillWays_162 self P j167)))))))))))))))))))))))))))
set_option maxRecDepth 100000 in
set_option maxHeartbeats 4000000 in
theorem scX4_fillWays_127 {d : Nat} [zGh] (n : Nat) (self : List zV → zH d → zP d → Bool) (hself : zMet X_X4_fillWays yX4_fillWays (1 + n) self) (P : zP d) (j210 : zK d) (hj210 : zSim X_X4_fillWays (1 + (n + 1)) P 210 j210) : zSim X_X4_fillWays (1 + (n + 1)) P 127 (cX4_fillWays_127 self P j210) := by
  unfold cX4_fillWays_127
  refine gf_X4_45 (pc := 127) rfl dX4_fillWays_127 ?_
  refine sm_iload_n (pc := 130) (n := 2) dX4_fillWays_130 rfl ?_
  refine sm_dup2 (pc := 131) dX4_fillWays_131 ?_
  refine sm_iaload (pc := 132) dX4_fillWays_132 ?_
  refine sm_iconst (pc := 133) dX4_fillWays_133 zc_i_1 ?_
  refine sm_iload (pc := 134) (n := 5) dX4_fillWays_134 ?_
  refine sm_ishl (pc := 136) dX4_fillWays_136 ?_
  refine sm_ior (pc := 137) dX4_fillWays_137 ?_
  refine sm_iastore (pc := 138) dX4_fillWays_138 ?_
  refine sm_aload_n (pc := 139) (n := 0) dX4_fillWays_139 rfl ?_
  refine gf_X4_42 (pc := 140) rfl dX4_fillWays_140 ?_
  refine sm_aload_n (pc := 143) (n := 0) dX4_fillWays_143 rfl ?_
  refine gf_X4_29 (pc := 144) rfl dX4_fillWays_144 ?_
  refine sm_iload_n (pc := 147) (n := 1) dX4_fillWays_147 rfl ?_
  refine sm_iaload (pc := 148) dX4_fillWays_148 ?_
  refine sm_iload_n (pc := 149) (n := 2) dX4_fillWays_149 rfl ?_
  refine sm_iadd (pc := 150) dX4_fillWays_150 ?_
  refine sm_iload (pc := 151) (n := 5) dX4_fillWays_151 ?_
  refine sm_iastore (pc := 153) dX4_fillWays_153 ?_
  refine sm_aload_n (pc := 154) (n := 0) dX4_fillWays_154 rfl ?_
  refine sm_iload (pc := 155) (n := 4) dX4_fillWays_155 ?_
  refine sm_join (pc := 157) (pc' := 167) (sbX4_fillWays_167 n self hself P j210 hj210) (fun j167 hj167 => ?_)
  refine sm_if_eq (pc := 157) (tgt := 166) dX4_fillWays_157 (by decide) ?_ ?_
  · skip
    refine sm_iload_n (pc := 166) (n := 1) dX4_fillWays_166 rfl ?_
    exact hj167
  · skip
    refine sm_iload_n (pc := 160) (n := 1) dX4_fillWays_160 rfl ?_
    refine sm_iconst (pc := 161) dX4_fillWays_161 zc_i_1 ?_
    exact scX4_fillWays_162 n self hself P j167 hj167
noncomputable def lX4_fillWays_87 {d : Nat} (self : List zV → zH d → zP d → Bool) (P : zP d) (r87 : zK d) : zK d := (xild 5 (xald 0 (xgfR 20 3 (xild 2 (xald1 0 (xcmp tge (xvret P) (xald 0 (xgfR 20 15 (xild 2 (xald1 0 (xild 5 (xbin zshr (xpI 1 (xbin zand (xjoin (bX4_fillWays_210 self P r87) (fun j210 => (xif0 t0eq (xald 0 (xgfR 20 15 (xild 2 (xald1 0 (xild 5 (xbin zshr (xcS 1 0 0 f_J6_bitCount_0f7a4 (xist 6 (xald 0 (cX4_fillWays_127 self P j210)))))))))) j210)))))))))))))))))
set_option maxRecDepth 100000 in
set_option maxHeartbeats 4000000 in
theorem slX4_fillWays_87 {d : Nat} [zGh] (n : Nat) (self : List zV → zH d → zP d → Bool) (hself : zMet X_X4_fillWays yX4_fillWays (1 + n) self) (P : zP d) (r87 : zK d) (hr87 : zSim X_X4_fillWays (1 + (n + 1)) P 87 r87) : zSim X_X4_fillWays (1 + (n + 1)) P 87 (lX4_fillWays_87 self P r87) := by
  unfold lX4_fillWays_87
  refine sm_iload (pc := 87) (n := 5) dX4_fillWays_87 ?_
  refine sm_aload_n (pc := 89) (n := 0) dX4_fillWays_89 rfl ?_
  refine gf_X4_26 (pc := 90) rfl dX4_fillWays_90 ?_
  refine sm_iload_n (pc := 93) (n := 2) dX4_fillWays_93 rfl ?_
  refine sm_iaload (pc := 94) dX4_fillWays_94 ?_
  refine sm_icmp_ge (pc := 95) (tgt := 216) dX4_fillWays_95 (by decide) ?_ ?_
  · skip
    exact sm_vreturn (pc := 216) dX4_fillWays_216 rfl
  · skip
    refine sm_aload_n (pc := 98) (n := 0) dX4_fillWays_98 rfl ?_
    refine gf_X4_45 (pc := 99) rfl dX4_fillWays_99 ?_
    refine sm_iload_n (pc := 102) (n := 2) dX4_fillWays_102 rfl ?_
    refine sm_iaload (pc := 103) dX4_fillWays_103 ?_
    refine sm_iload (pc := 104) (n := 5) dX4_fillWays_104 ?_
    refine sm_ishr (pc := 106) dX4_fillWays_106 ?_
    refine sm_iconst (pc := 107) dX4_fillWays_107 zc_i_1 ?_
    refine sm_iand (pc := 108) dX4_fillWays_108 ?_
    refine sm_join (pc := 109) (pc' := 210) (sbX4_fillWays_210 n self hself P r87 hr87) (fun j210 hj210 => ?_)
    refine sm_if_ne (pc := 109) (tgt := 210) dX4_fillWays_109 (by decide) ?_ ?_
    · skip
      exact hj210
    · skip
      refine sm_aload_n (pc := 112) (n := 0) dX4_fillWays_112 rfl ?_
      refine gf_X4_45 (pc := 113) rfl dX4_fillWays_113 ?_
      refine sm_iload_n (pc := 116) (n := 2) dX4_fillWays_116 rfl ?_
      refine sm_iaload (pc := 117) dX4_fillWays_117 ?_
      refine sm_iload (pc := 118) (n := 5) dX4_fillWays_118 ?_
      refine sm_ishr (pc := 120) dX4_fillWays_120 ?_
      refine sm_cS (pc := 121) (n := 1) (mc := 0) (ms := 0) m_J6_bitCount_0f7a4 (cr_X4_113 (X := X_X4_fillWays) (fr := 1 + (n + 1)) (frc := 1) (pc := 121) (mc := 0) (ms := 0) rfl (by omega) dX4_fillWays_121) ?_
      refine sm_istore (pc := 124) (n := 6) dX4_fillWays_124 ?_
      refine sm_aload_n (pc := 126) (n := 0) dX4_fillWays_126 rfl ?_
      exact scX4_fillWays_127 n self hself P j210 hj210
noncomputable def bX4_fillWays_82 {d : Nat} (self : List zV → zH d → zP d → Bool) (P : zP d) : zK d := (xist 4 (xpI 0 (xist 5 (xloop (fun r87 => (lX4_fillWays_87 self P r87)) 100000))))
set_option maxRecDepth 100000 in
set_option maxHeartbeats 4000000 in
theorem sbX4_fillWays_82 {d : Nat} [zGh] (n : Nat) (self : List zV → zH d → zP d → Bool) (hself : zMet X_X4_fillWays yX4_fillWays (1 + n) self) (P : zP d) : zSim X_X4_fillWays (1 + (n + 1)) P 82 (bX4_fillWays_82 self P) := by
  unfold bX4_fillWays_82
  refine sm_istore (pc := 82) (n := 4) dX4_fillWays_82 ?_
  refine sm_iconst (pc := 84) dX4_fillWays_84 zc_i_0 ?_
  refine sm_istore (pc := 85) (n := 5) dX4_fillWays_85 ?_
  exact sm_loop (fun r87 hr87 => slX4_fillWays_87 n self hself P r87 hr87) _
noncomputable def bX4_fillWays_64 {d : Nat} (self : List zV → zH d → zP d → Bool) (P : zP d) : zK d := (xvret P)
set_option maxRecDepth 100000 in
set_option maxHeartbeats 4000000 in
theorem sbX4_fillWays_64 {d : Nat} [zGh] (n : Nat) (self : List zV → zH d → zP d → Bool) (hself : zMet X_X4_fillWays yX4_fillWays (1 + n) self) (P : zP d) : zSim X_X4_fillWays (1 + (n + 1)) P 64 (bX4_fillWays_64 self P) := by
  unfold bX4_fillWays_64
  exact sm_vreturn (pc := 64) dX4_fillWays_64 rfl
noncomputable def cX4_fillWays_48 {d : Nat} (self : List zV → zH d → zP d → Bool) (P : zP d) (j64 : zK d) : zK d := (xald 0 (xgfI 20 13 (xild 3 (xast1 0 (fun v => v) (xald 0 (xdup (xgfI 20 13 (xpI 1 (xbin zadd (xpfI 20 13 j64))))))))))
set_option maxRecDepth 100000 in
set_option maxHeartbeats 4000000 in
theorem scX4_fillWays_48 {d : Nat} [zGh] (n : Nat) (self : List zV → zH d → zP d → Bool) (hself : zMet X_X4_fillWays yX4_fillWays (1 + n) self) (P : zP d) (j64 : zK d) (hj64 : zSim X_X4_fillWays (1 + (n + 1)) P 64 j64) : zSim X_X4_fillWays (1 + (n + 1)) P 48 (cX4_fillWays_48 self P j64) := by
  unfold cX4_fillWays_48
  refine sm_aload_n (pc := 48) (n := 0) dX4_fillWays_48 rfl ?_
  refine gf_X4_69 (pc := 49) rfl dX4_fillWays_49 ?_
  refine sm_iload_n (pc := 52) (n := 3) dX4_fillWays_52 rfl ?_
  refine sm_iastore (pc := 53) dX4_fillWays_53 ?_
  refine sm_aload_n (pc := 54) (n := 0) dX4_fillWays_54 rfl ?_
  refine sm_dup (pc := 55) dX4_fillWays_55 ?_
  refine gf_X4_69 (pc := 56) rfl dX4_fillWays_56 ?_
  refine sm_iconst (pc := 59) dX4_fillWays_59 zc_i_1 ?_
  refine sm_iadd (pc := 60) dX4_fillWays_60 ?_
  refine pf_X4_69 (pc := 61) rfl dX4_fillWays_61 ?_
  exact hj64
noncomputable def b_X4_fillWays {d : Nat} (self : List zV → zH d → zP d → Bool) (P : zP d) : zK d := (xild 1 (xald 0 (xgfI 20 1 (xcmp tge (xald 0 (xgfI 20 13 (xald 0 (xgfI 20 8 (xjoin (bX4_fillWays_64 self P) (fun j64 => (xcmp tge j64 (xald 0 (xgfR 20 14 (xpI 0 (xald 0 (xgfR 20 9 (xald 0 (xgfI 20 13 (xald 0 (xgfI 20 0 (xbin zmul (xald 0 (xgfI 20 0 (xcpy 0 40 (xald 0 (xgfR 20 10 (cX4_fillWays_48 self P j64))))))))))))))))))))))) (xild 2 (xpI 1 (xbin zadd (xald 0 (xgfR 20 2 (xild 1 (xald1 0 (xjoin (bX4_fillWays_82 self P) (fun j82 => (xcmp Nat.beq (xpI 1 j82) (xpI 0 j82)))))))))))))))
set_option maxRecDepth 100000 in
set_option maxHeartbeats 4000000 in
theorem s_X4_fillWays {d : Nat} [zGh] (n : Nat) (self : List zV → zH d → zP d → Bool) (hself : zMet X_X4_fillWays yX4_fillWays (1 + n) self) (P : zP d) : zSim X_X4_fillWays (1 + (n + 1)) P 0 (b_X4_fillWays self P) := by
  unfold b_X4_fillWays
  refine sm_iload_n (pc := 0) (n := 1) dX4_fillWays_0 rfl ?_
  refine sm_aload_n (pc := 1) (n := 0) dX4_fillWays_1 rfl ?_
  refine gf_X4_13 (pc := 2) rfl dX4_fillWays_2 ?_
  refine sm_icmp_lt (pc := 5) (tgt := 65) dX4_fillWays_5 (by decide) ?_ ?_
  · skip
    refine sm_iload_n (pc := 65) (n := 2) dX4_fillWays_65 rfl ?_
    refine sm_iconst (pc := 66) dX4_fillWays_66 zc_i_1 ?_
    refine sm_iadd (pc := 67) dX4_fillWays_67 ?_
    refine sm_aload_n (pc := 68) (n := 0) dX4_fillWays_68 rfl ?_
    refine gf_X4_22 (pc := 69) rfl dX4_fillWays_69 ?_
    refine sm_iload_n (pc := 72) (n := 1) dX4_fillWays_72 rfl ?_
    refine sm_iaload (pc := 73) dX4_fillWays_73 ?_
    refine sm_join (pc := 74) (pc' := 82) (sbX4_fillWays_82 n self hself P) (fun j82 hj82 => ?_)
    refine sm_icmp_ne (pc := 74) (tgt := 81) dX4_fillWays_74 (by decide) ?_ ?_
    · skip
      refine sm_iconst (pc := 81) dX4_fillWays_81 zc_i_0 ?_
      exact hj82
    · skip
      refine sm_iconst (pc := 77) dX4_fillWays_77 zc_i_1 ?_
      refine sm_goto (pc := 78) (tgt := 82) dX4_fillWays_78 (by decide) ?_
      exact hj82
  · skip
    refine sm_aload_n (pc := 8) (n := 0) dX4_fillWays_8 rfl ?_
    refine gf_X4_69 (pc := 9) rfl dX4_fillWays_9 ?_
    refine sm_aload_n (pc := 12) (n := 0) dX4_fillWays_12 rfl ?_
    refine gf_X4_60 (pc := 13) rfl dX4_fillWays_13 ?_
    refine sm_join (pc := 16) (pc' := 64) (sbX4_fillWays_64 n self hself P) (fun j64 hj64 => ?_)
    refine sm_icmp_ge (pc := 16) (tgt := 64) dX4_fillWays_16 (by decide) ?_ ?_
    · skip
      exact hj64
    · skip
      refine sm_aload_n (pc := 19) (n := 0) dX4_fillWays_19 rfl ?_
      refine gf_X4_42 (pc := 20) rfl dX4_fillWays_20 ?_
      refine sm_iconst (pc := 23) dX4_fillWays_23 zc_i_0 ?_
      refine sm_aload_n (pc := 24) (n := 0) dX4_fillWays_24 rfl ?_
      refine gf_X4_63 (pc := 25) rfl dX4_fillWays_25 ?_
      refine sm_aload_n (pc := 28) (n := 0) dX4_fillWays_28 rfl ?_
      refine gf_X4_69 (pc := 29) rfl dX4_fillWays_29 ?_
      refine sm_aload_n (pc := 32) (n := 0) dX4_fillWays_32 rfl ?_
      refine gf_X4_7 (pc := 33) rfl dX4_fillWays_33 ?_
      refine sm_imul (pc := 36) dX4_fillWays_36 ?_
      refine sm_aload_n (pc := 37) (n := 0) dX4_fillWays_37 rfl ?_
      refine gf_X4_7 (pc := 38) rfl dX4_fillWays_38 ?_
      refine sm_copyI (pc := 41) wd_102 wd_80 wd_79 wd_7 (by omega) dX4_fillWays_41 ?_
      refine sm_aload_n (pc := 44) (n := 0) dX4_fillWays_44 rfl ?_
      refine gf_X4_66 (pc := 45) rfl dX4_fillWays_45 ?_
      exact scX4_fillWays_48 n self hself P j64 hj64
noncomputable def f_X4_fillWays {d : Nat} : List zV → zH d → zP d → Bool := zrec 7 b_X4_fillWays 8
theorem m_X4_fillWays {d : Nat} : zMet (d := d) X_X4_fillWays yX4_fillWays 9 f_X4_fillWays := zmet_rec (X := X_X4_fillWays) (fr := 1) (by decide) rfl rfl (fun n f hf _ P => s_X4_fillWays n f hf P) 8

abbrev X_X4_weighNumbers : zM := (RX4, cX4_weighNumbers, 3, none, "weighNumbers")
noncomputable def lX4_weighNumbers_4 {d : Nat} (P : zP d) (r4 : zK d) : zK d := (xild 2 (xald 0 (xgfI 20 0 (xcmp tge (xvret P) (xald 0 (xgfR 20 12 (xild 2 (xild 1 (xast1 0 (fun v => v) (xild 1 (xald 0 (xgfI 20 1 (xbin zmul (xist 1 (xinc 2 1 r4)))))))))))))))
set_option maxRecDepth 100000 in
set_option maxHeartbeats 4000000 in
theorem slX4_weighNumbers_4 {d : Nat} [zGh] (P : zP d) (r4 : zK d) (hr4 : zSim X_X4_weighNumbers 1 P 4 r4) : zSim X_X4_weighNumbers 1 P 4 (lX4_weighNumbers_4 P r4) := by
  unfold lX4_weighNumbers_4
  refine sm_iload_n (pc := 4) (n := 2) dX4_weighNumbers_4 rfl ?_
  refine sm_aload_n (pc := 5) (n := 0) dX4_weighNumbers_5 rfl ?_
  refine gf_X4_7 (pc := 6) rfl dX4_weighNumbers_6 ?_
  refine sm_icmp_ge (pc := 9) (tgt := 32) dX4_weighNumbers_9 (by decide) ?_ ?_
  · skip
    exact sm_vreturn (pc := 32) dX4_weighNumbers_32 rfl
  · skip
    refine sm_aload_n (pc := 12) (n := 0) dX4_weighNumbers_12 rfl ?_
    refine gf_X4_80 (pc := 13) rfl dX4_weighNumbers_13 ?_
    refine sm_iload_n (pc := 16) (n := 2) dX4_weighNumbers_16 rfl ?_
    refine sm_iload_n (pc := 17) (n := 1) dX4_weighNumbers_17 rfl ?_
    refine sm_iastore (pc := 18) dX4_weighNumbers_18 ?_
    refine sm_iload_n (pc := 19) (n := 1) dX4_weighNumbers_19 rfl ?_
    refine sm_aload_n (pc := 20) (n := 0) dX4_weighNumbers_20 rfl ?_
    refine gf_X4_13 (pc := 21) rfl dX4_weighNumbers_21 ?_
    refine sm_imul (pc := 24) dX4_weighNumbers_24 ?_
    refine sm_istore_n (pc := 25) (n := 1) dX4_weighNumbers_25 rfl ?_
    refine sm_iinc (pc := 26) (n := 2) dX4_weighNumbers_26 zc_i_1 ?_
    refine sm_goto (pc := 29) (tgt := 4) dX4_weighNumbers_29 (by decide) ?_
    exact hr4
noncomputable def b_X4_weighNumbers {d : Nat} (P : zP d) : zK d := (xpI 1 (xist 1 (xpI 1 (xist 2 (xloop (fun r4 => (lX4_weighNumbers_4 P r4)) 100000)))))
set_option maxRecDepth 100000 in
set_option maxHeartbeats 4000000 in
theorem s_X4_weighNumbers {d : Nat} [zGh] (P : zP d) : zSim X_X4_weighNumbers 1 P 0 (b_X4_weighNumbers P) := by
  unfold b_X4_weighNumbers
  refine sm_iconst (pc := 0) dX4_weighNumbers_0 zc_i_1 ?_
  refine sm_istore_n (pc := 1) (n := 1) dX4_weighNumbers_1 rfl ?_
  refine sm_iconst (pc := 2) dX4_weighNumbers_2 zc_i_1 ?_
  refine sm_istore_n (pc := 3) (n := 2) dX4_weighNumbers_3 rfl ?_
  exact sm_loop (fun r4 hr4 => slX4_weighNumbers_4 P r4 hr4) _
noncomputable def f_X4_weighNumbers {d : Nat} : List zV → zH d → zP d → Bool := zfn 3 b_X4_weighNumbers
theorem m_X4_weighNumbers {d : Nat} : zMet (d := d) X_X4_weighNumbers yX4_weighNumbers 1 f_X4_weighNumbers := zmet_mk (X := X_X4_weighNumbers) (by decide) rfl rfl s_X4_weighNumbers

abbrev X_X4_codeCount : zM := (RX4, cX4_codeCount, 3, (some .int), "codeCount")
noncomputable def lX4_codeCount_4 {d : Nat} (P : zP d) (r4 : zK d) : zK d := (xild 2 (xald 0 (xgfI 20 0 (xcmp tge (xild 1 (xiret P)) (xild 1 (xald 0 (xgfI 20 1 (xbin zmul (xist 1 (xinc 2 1 r4))))))))))
set_option maxRecDepth 100000 in
set_option maxHeartbeats 4000000 in
theorem slX4_codeCount_4 {d : Nat} [zGh] (P : zP d) (r4 : zK d) (hr4 : zSim X_X4_codeCount 1 P 4 r4) : zSim X_X4_codeCount 1 P 4 (lX4_codeCount_4 P r4) := by
  unfold lX4_codeCount_4
  refine sm_iload_n (pc := 4) (n := 2) dX4_codeCount_4 rfl ?_
  refine sm_aload_n (pc := 5) (n := 0) dX4_codeCount_5 rfl ?_
  refine gf_X4_7 (pc := 6) rfl dX4_codeCount_6 ?_
  refine sm_icmp_ge (pc := 9) (tgt := 25) dX4_codeCount_9 (by decide) ?_ ?_
  · skip
    refine sm_iload_n (pc := 25) (n := 1) dX4_codeCount_25 rfl ?_
    exact sm_ireturn (pc := 26) dX4_codeCount_26 rfl
  · skip
    refine sm_iload_n (pc := 12) (n := 1) dX4_codeCount_12 rfl ?_
    refine sm_aload_n (pc := 13) (n := 0) dX4_codeCount_13 rfl ?_
    refine gf_X4_13 (pc := 14) rfl dX4_codeCount_14 ?_
    refine sm_imul (pc := 17) dX4_codeCount_17 ?_
    refine sm_istore_n (pc := 18) (n := 1) dX4_codeCount_18 rfl ?_
    refine sm_iinc (pc := 19) (n := 2) dX4_codeCount_19 zc_i_1 ?_
    refine sm_goto (pc := 22) (tgt := 4) dX4_codeCount_22 (by decide) ?_
    exact hr4
noncomputable def b_X4_codeCount {d : Nat} (P : zP d) : zK d := (xpI 1 (xist 1 (xpI 1 (xist 2 (xloop (fun r4 => (lX4_codeCount_4 P r4)) 100000)))))
set_option maxRecDepth 100000 in
set_option maxHeartbeats 4000000 in
theorem s_X4_codeCount {d : Nat} [zGh] (P : zP d) : zSim X_X4_codeCount 1 P 0 (b_X4_codeCount P) := by
  unfold b_X4_codeCount
  refine sm_iconst (pc := 0) dX4_codeCount_0 zc_i_1 ?_
  refine sm_istore_n (pc := 1) (n := 1) dX4_codeCount_1 rfl ?_
  refine sm_iconst (pc := 2) dX4_codeCount_2 zc_i_1 ?_
  refine sm_istore_n (pc := 3) (n := 2) dX4_codeCount_3 rfl ?_
  exact sm_loop (fun r4 hr4 => slX4_codeCount_4 P r4 hr4) _
noncomputable def f_X4_codeCount {d : Nat} : List zV → zH d → zP d → Bool := zfn 3 b_X4_codeCount
theorem m_X4_codeCount {d : Nat} : zMet (d := d) X_X4_codeCount yX4_codeCount 1 f_X4_codeCount := zmet_mk (X := X_X4_codeCount) (by decide) rfl rfl s_X4_codeCount

abbrev X_X4_codeOf : zM := (RX4, cX4_codeOf, 6, (some .int), "codeOf")
noncomputable def cX4_codeOf_44 {d : Nat} (P : zP d) (r6 : zK d) : zK d := (xist 4 (xinc 5 1 r6))
set_option maxRecDepth 100000 in
set_option maxHeartbeats 4000000 in
theorem scX4_codeOf_44 {d : Nat} [zGh] (P : zP d) (r6 : zK d) (hr6 : zSim X_X4_codeOf 1 P 6 r6) : zSim X_X4_codeOf 1 P 44 (cX4_codeOf_44 P r6) := by
  unfold cX4_codeOf_44
  refine sm_istore (pc := 44) (n := 4) dX4_codeOf_44 ?_
  refine sm_iinc (pc := 46) (n := 5) dX4_codeOf_46 zc_i_1 ?_
  refine sm_goto (pc := 49) (tgt := 6) dX4_codeOf_49 (by decide) ?_
  exact hr6
noncomputable def lX4_codeOf_6 {d : Nat} (P : zP d) (r6 : zK d) : zK d := (xild 5 (xald 0 (xgfI 20 0 (xcmp tge (xild 4 (xiret P)) (xild 4 (xald 0 (xgfR 20 9 (xild 2 (xald 0 (xgfI 20 0 (xbin zmul (xild 5 (xbin zadd (xald1 0 (xald 0 (xgfR 20 12 (xald 3 (xald 1 (xild 5 (xald1 0 (xald1 0 (xald1 0 (xbin zmul (xbin zadd (cX4_codeOf_44 P r6)))))))))))))))))))))))))
set_option maxRecDepth 100000 in
set_option maxHeartbeats 4000000 in
theorem slX4_codeOf_6 {d : Nat} [zGh] (P : zP d) (r6 : zK d) (hr6 : zSim X_X4_codeOf 1 P 6 r6) : zSim X_X4_codeOf 1 P 6 (lX4_codeOf_6 P r6) := by
  unfold lX4_codeOf_6
  refine sm_iload (pc := 6) (n := 5) dX4_codeOf_6 ?_
  refine sm_aload_n (pc := 8) (n := 0) dX4_codeOf_8 rfl ?_
  refine gf_X4_7 (pc := 9) rfl dX4_codeOf_9 ?_
  refine sm_icmp_ge (pc := 12) (tgt := 52) dX4_codeOf_12 (by decide) ?_ ?_
  · skip
    refine sm_iload (pc := 52) (n := 4) dX4_codeOf_52 ?_
    exact sm_ireturn (pc := 54) dX4_codeOf_54 rfl
  · skip
    refine sm_iload (pc := 15) (n := 4) dX4_codeOf_15 ?_
    refine sm_aload_n (pc := 17) (n := 0) dX4_codeOf_17 rfl ?_
    refine gf_X4_63 (pc := 18) rfl dX4_codeOf_18 ?_
    refine sm_iload_n (pc := 21) (n := 2) dX4_codeOf_21 rfl ?_
    refine sm_aload_n (pc := 22) (n := 0) dX4_codeOf_22 rfl ?_
    refine gf_X4_7 (pc := 23) rfl dX4_codeOf_23 ?_
    refine sm_imul (pc := 26) dX4_codeOf_26 ?_
    refine sm_iload (pc := 27) (n := 5) dX4_codeOf_27 ?_
    refine sm_iadd (pc := 29) dX4_codeOf_29 ?_
    refine sm_iaload (pc := 30) dX4_codeOf_30 ?_
    refine sm_aload_n (pc := 31) (n := 0) dX4_codeOf_31 rfl ?_
    refine gf_X4_80 (pc := 32) rfl dX4_codeOf_32 ?_
    refine sm_aload_n (pc := 35) (n := 3) dX4_codeOf_35 rfl ?_
    refine sm_aload_n (pc := 36) (n := 1) dX4_codeOf_36 rfl ?_
    refine sm_iload (pc := 37) (n := 5) dX4_codeOf_37 ?_
    refine sm_iaload (pc := 39) dX4_codeOf_39 ?_
    refine sm_iaload (pc := 40) dX4_codeOf_40 ?_
    refine sm_iaload (pc := 41) dX4_codeOf_41 ?_
    refine sm_imul (pc := 42) dX4_codeOf_42 ?_
    refine sm_iadd (pc := 43) dX4_codeOf_43 ?_
    exact scX4_codeOf_44 P r6 hr6
noncomputable def b_X4_codeOf {d : Nat} (P : zP d) : zK d := (xpI 0 (xist 4 (xpI 0 (xist 5 (xloop (fun r6 => (lX4_codeOf_6 P r6)) 100000)))))
set_option maxRecDepth 100000 in
set_option maxHeartbeats 4000000 in
theorem s_X4_codeOf {d : Nat} [zGh] (P : zP d) : zSim X_X4_codeOf 1 P 0 (b_X4_codeOf P) := by
  unfold b_X4_codeOf
  refine sm_iconst (pc := 0) dX4_codeOf_0 zc_i_0 ?_
  refine sm_istore (pc := 1) (n := 4) dX4_codeOf_1 ?_
  refine sm_iconst (pc := 3) dX4_codeOf_3 zc_i_0 ?_
  refine sm_istore (pc := 4) (n := 5) dX4_codeOf_4 ?_
  exact sm_loop (fun r6 hr6 => slX4_codeOf_6 P r6 hr6) _
noncomputable def f_X4_codeOf {d : Nat} : List zV → zH d → zP d → Bool := zfn 6 b_X4_codeOf
theorem m_X4_codeOf {d : Nat} : zMet (d := d) X_X4_codeOf yX4_codeOf 1 f_X4_codeOf := zmet_mk (X := X_X4_codeOf) (by decide) rfl rfl s_X4_codeOf

abbrev X_X4_formWith : zM := (RX4, cX4_formWith, 5, (some .int), "formWith")
noncomputable def lX4_formWith_5 {d : Nat} (P : zP d) (r5 : zK d) : zK d := (xild 4 (xald 0 (xgfI 20 8 (xcmp tge (xild 3 (xiret P)) (xild 3 (xald 0 (xgfR 20 10 (xild 4 (xald1 0 (xald 2 (xald 1 (xild 4 (xald1 0 (xald1 0 (xbin zmul (xbin zadd (xist 3 (xinc 4 1 r5))))))))))))))))))
set_option maxRecDepth 100000 in
set_option maxHeartbeats 4000000 in
theorem slX4_formWith_5 {d : Nat} [zGh] (P : zP d) (r5 : zK d) (hr5 : zSim X_X4_formWith 1 P 5 r5) : zSim X_X4_formWith 1 P 5 (lX4_formWith_5 P r5) := by
  unfold lX4_formWith_5
  refine sm_iload (pc := 5) (n := 4) dX4_formWith_5 ?_
  refine sm_aload_n (pc := 7) (n := 0) dX4_formWith_7 rfl ?_
  refine gf_X4_60 (pc := 8) rfl dX4_formWith_8 ?_
  refine sm_icmp_ge (pc := 11) (tgt := 37) dX4_formWith_11 (by decide) ?_ ?_
  · skip
    refine sm_iload_n (pc := 37) (n := 3) dX4_formWith_37 rfl ?_
    exact sm_ireturn (pc := 38) dX4_formWith_38 rfl
  · skip
    refine sm_iload_n (pc := 14) (n := 3) dX4_formWith_14 rfl ?_
    refine sm_aload_n (pc := 15) (n := 0) dX4_formWith_15 rfl ?_
    refine gf_X4_66 (pc := 16) rfl dX4_formWith_16 ?_
    refine sm_iload (pc := 19) (n := 4) dX4_formWith_19 ?_
    refine sm_iaload (pc := 21) dX4_formWith_21 ?_
    refine sm_aload_n (pc := 22) (n := 2) dX4_formWith_22 rfl ?_
    refine sm_aload_n (pc := 23) (n := 1) dX4_formWith_23 rfl ?_
    refine sm_iload (pc := 24) (n := 4) dX4_formWith_24 ?_
    refine sm_iaload (pc := 26) dX4_formWith_26 ?_
    refine sm_iaload (pc := 27) dX4_formWith_27 ?_
    refine sm_imul (pc := 28) dX4_formWith_28 ?_
    refine sm_iadd (pc := 29) dX4_formWith_29 ?_
    refine sm_istore_n (pc := 30) (n := 3) dX4_formWith_30 rfl ?_
    refine sm_iinc (pc := 31) (n := 4) dX4_formWith_31 zc_i_1 ?_
    refine sm_goto (pc := 34) (tgt := 5) dX4_formWith_34 (by decide) ?_
    exact hr5
noncomputable def b_X4_formWith {d : Nat} (P : zP d) : zK d := (xpI 0 (xist 3 (xpI 0 (xist 4 (xloop (fun r5 => (lX4_formWith_5 P r5)) 100000)))))
set_option maxRecDepth 100000 in
set_option maxHeartbeats 4000000 in
theorem s_X4_formWith {d : Nat} [zGh] (P : zP d) : zSim X_X4_formWith 1 P 0 (b_X4_formWith P) := by
  unfold b_X4_formWith
  refine sm_iconst (pc := 0) dX4_formWith_0 zc_i_0 ?_
  refine sm_istore_n (pc := 1) (n := 3) dX4_formWith_1 rfl ?_
  refine sm_iconst (pc := 2) dX4_formWith_2 zc_i_0 ?_
  refine sm_istore (pc := 3) (n := 4) dX4_formWith_3 ?_
  exact sm_loop (fun r5 hr5 => slX4_formWith_5 P r5 hr5) _
noncomputable def f_X4_formWith {d : Nat} : List zV → zH d → zP d → Bool := zfn 5 b_X4_formWith
theorem m_X4_formWith {d : Nat} : zMet (d := d) X_X4_formWith yX4_formWith 1 f_X4_formWith := zmet_mk (X := X_X4_formWith) (by decide) rfl rfl s_X4_formWith

abbrev X_X4_makeMovedForms : zM := (RX4, cX4_makeMovedForms, 6, none, "makeMovedForms")
noncomputable def lX4_makeMovedForms_93 {d : Nat} (P : zP d) (r3 : zK d) (r93 : zK d) : zK d := (xild 5 (xald 0 (xgfI 20 8 (xcmp tge (xinc 4 1 r3) (xald 2 (xald 0 (xald 0 (xgfR 20 6 (xild 4 (xaal (xild 5 (xald 1 (xcV 20 4 0 0 f_X4_codeOf (xpI 0 (xast1 0 (fun v => v) (xinc 5 1 r93))))))))))))))))
set_option maxRecDepth 100000 in
set_option maxHeartbeats 4000000 in
theorem slX4_makeMovedForms_93 {d : Nat} [zGh] (P : zP d) (r3 : zK d) (r93 : zK d) (hr3 : zSim X_X4_makeMovedForms 2 P 3 r3) (hr93 : zSim X_X4_makeMovedForms 2 P 93 r93) : zSim X_X4_makeMovedForms 2 P 93 (lX4_makeMovedForms_93 P r3 r93) := by
  unfold lX4_makeMovedForms_93
  refine sm_iload (pc := 93) (n := 5) dX4_makeMovedForms_93 ?_
  refine sm_aload_n (pc := 95) (n := 0) dX4_makeMovedForms_95 rfl ?_
  refine gf_X4_60 (pc := 96) rfl dX4_makeMovedForms_96 ?_
  refine sm_icmp_ge (pc := 99) (tgt := 125) dX4_makeMovedForms_99 (by decide) ?_ ?_
  · skip
    refine sm_iinc (pc := 125) (n := 4) dX4_makeMovedForms_125 zc_i_1 ?_
    refine sm_goto (pc := 128) (tgt := 3) dX4_makeMovedForms_128 (by decide) ?_
    exact hr3
  · skip
    refine sm_aload_n (pc := 102) (n := 2) dX4_makeMovedForms_102 rfl ?_
    refine sm_aload_n (pc := 103) (n := 0) dX4_makeMovedForms_103 rfl ?_
    refine sm_aload_n (pc := 104) (n := 0) dX4_makeMovedForms_104 rfl ?_
    refine gf_X4_50 (pc := 105) rfl dX4_makeMovedForms_105 ?_
    refine sm_iload (pc := 108) (n := 4) dX4_makeMovedForms_108 ?_
    refine sm_aaload (pc := 110) dX4_makeMovedForms_110 ?_
    refine sm_iload (pc := 111) (n := 5) dX4_makeMovedForms_111 ?_
    refine sm_aload_n (pc := 113) (n := 1) dX4_makeMovedForms_113 rfl ?_
    refine sm_cV (pc := 114) (ci := 4) (n := 4) (mc := 0) (ms := 0) rfl m_X4_codeOf (cr_X4_118 (X := X_X4_makeMovedForms) (fr := 2) (frc := 1) (pc := 114) (mc := 0) (ms := 0) rfl (by decide) dX4_makeMovedForms_114) ?_
    refine sm_iconst (pc := 117) dX4_makeMovedForms_117 zc_i_0 ?_
    refine sm_iastore (pc := 118) dX4_makeMovedForms_118 ?_
    refine sm_iinc (pc := 119) (n := 5) dX4_makeMovedForms_119 zc_i_1 ?_
    refine sm_goto (pc := 122) (tgt := 93) dX4_makeMovedForms_122 (by decide) ?_
    exact hr93
noncomputable def lX4_makeMovedForms_56 {d : Nat} (P : zP d) (r3 : zK d) (r56 : zK d) : zK d := (xild 5 (xald 0 (xgfI 20 5 (xcmp tge (xpI 0 (xist 5 (xloop (fun r93 => (lX4_makeMovedForms_93 P r3 r93)) 100000))) (xald 3 (xild 4 (xaal (xild 5 (xald 0 (xald 0 (xgfR 20 11 (xild 5 (xaal (xald 2 (xcV 20 3 0 0 f_X4_formWith (xast1 0 (fun v => v) (xinc 5 1 r56)))))))))))))))))
set_option maxRecDepth 100000 in
set_option maxHeartbeats 4000000 in
theorem slX4_makeMovedForms_56 {d : Nat} [zGh] (P : zP d) (r3 : zK d) (r56 : zK d) (hr3 : zSim X_X4_makeMovedForms 2 P 3 r3) (hr56 : zSim X_X4_makeMovedForms 2 P 56 r56) : zSim X_X4_makeMovedForms 2 P 56 (lX4_makeMovedForms_56 P r3 r56) := by
  unfold lX4_makeMovedForms_56
  refine sm_iload (pc := 56) (n := 5) dX4_makeMovedForms_56 ?_
  refine sm_aload_n (pc := 58) (n := 0) dX4_makeMovedForms_58 rfl ?_
  refine gf_X4_39 (pc := 59) rfl dX4_makeMovedForms_59 ?_
  refine sm_icmp_ge (pc := 62) (tgt := 90) dX4_makeMovedForms_62 (by decide) ?_ ?_
  · skip
    refine sm_iconst (pc := 90) dX4_makeMovedForms_90 zc_i_0 ?_
    refine sm_istore (pc := 91) (n := 5) dX4_makeMovedForms_91 ?_
    exact sm_loop (fun r93 hr93 => slX4_makeMovedForms_93 P r3 r93 hr3 hr93) _
  · skip
    refine sm_aload_n (pc := 65) (n := 3) dX4_makeMovedForms_65 rfl ?_
    refine sm_iload (pc := 66) (n := 4) dX4_makeMovedForms_66 ?_
    refine sm_aaload (pc := 68) dX4_makeMovedForms_68 ?_
    refine sm_iload (pc := 69) (n := 5) dX4_makeMovedForms_69 ?_
    refine sm_aload_n (pc := 71) (n := 0) dX4_makeMovedForms_71 rfl ?_
    refine sm_aload_n (pc := 72) (n := 0) dX4_makeMovedForms_72 rfl ?_
    refine gf_X4_86 (pc := 73) rfl dX4_makeMovedForms_73 ?_
    refine sm_iload (pc := 76) (n := 5) dX4_makeMovedForms_76 ?_
    refine sm_aaload (pc := 78) dX4_makeMovedForms_78 ?_
    refine sm_aload_n (pc := 79) (n := 2) dX4_makeMovedForms_79 rfl ?_
    refine sm_cV (pc := 80) (ci := 4) (n := 3) (mc := 0) (ms := 0) rfl m_X4_formWith (cr_X4_126 (X := X_X4_makeMovedForms) (fr := 2) (frc := 1) (pc := 80) (mc := 0) (ms := 0) rfl (by decide) dX4_makeMovedForms_80) ?_
    refine sm_iastore (pc := 83) dX4_makeMovedForms_83 ?_
    refine sm_iinc (pc := 84) (n := 5) dX4_makeMovedForms_84 zc_i_1 ?_
    refine sm_goto (pc := 87) (tgt := 56) dX4_makeMovedForms_87 (by decide) ?_
    exact hr56
noncomputable def lX4_makeMovedForms_15 {d : Nat} (P : zP d) (r15 : zK d) (r3 : zK d) : zK d := (xild 5 (xald 0 (xgfI 20 8 (xcmp tge (xpI 0 (xist 5 (xloop (fun r56 => (lX4_makeMovedForms_56 P r3 r56)) 100000))) (xald 2 (xald 0 (xald 0 (xgfR 20 6 (xild 4 (xaal (xild 5 (xald 1 (xcV 20 4 0 0 f_X4_codeOf (xald 0 (xgfR 20 10 (xild 5 (xald1 0 (xast1 0 (fun v => v) (xinc 5 1 r15)))))))))))))))))))
set_option maxRecDepth 100000 in
set_option maxHeartbeats 4000000 in
theorem slX4_makeMovedForms_15 {d : Nat} [zGh] (P : zP d) (r15 : zK d) (r3 : zK d) (hr15 : zSim X_X4_makeMovedForms 2 P 15 r15) (hr3 : zSim X_X4_makeMovedForms 2 P 3 r3) : zSim X_X4_makeMovedForms 2 P 15 (lX4_makeMovedForms_15 P r15 r3) := by
  unfold lX4_makeMovedForms_15
  refine sm_iload (pc := 15) (n := 5) dX4_makeMovedForms_15 ?_
  refine sm_aload_n (pc := 17) (n := 0) dX4_makeMovedForms_17 rfl ?_
  refine gf_X4_60 (pc := 18) rfl dX4_makeMovedForms_18 ?_
  refine sm_icmp_ge (pc := 21) (tgt := 53) dX4_makeMovedForms_21 (by decide) ?_ ?_
  · skip
    refine sm_iconst (pc := 53) dX4_makeMovedForms_53 zc_i_0 ?_
    refine sm_istore (pc := 54) (n := 5) dX4_makeMovedForms_54 ?_
    exact sm_loop (fun r56 hr56 => slX4_makeMovedForms_56 P r3 r56 hr3 hr56) _
  · skip
    refine sm_aload_n (pc := 24) (n := 2) dX4_makeMovedForms_24 rfl ?_
    refine sm_aload_n (pc := 25) (n := 0) dX4_makeMovedForms_25 rfl ?_
    refine sm_aload_n (pc := 26) (n := 0) dX4_makeMovedForms_26 rfl ?_
    refine gf_X4_50 (pc := 27) rfl dX4_makeMovedForms_27 ?_
    refine sm_iload (pc := 30) (n := 4) dX4_makeMovedForms_30 ?_
    refine sm_aaload (pc := 32) dX4_makeMovedForms_32 ?_
    refine sm_iload (pc := 33) (n := 5) dX4_makeMovedForms_33 ?_
    refine sm_aload_n (pc := 35) (n := 1) dX4_makeMovedForms_35 rfl ?_
    refine sm_cV (pc := 36) (ci := 4) (n := 4) (mc := 0) (ms := 0) rfl m_X4_codeOf (cr_X4_118 (X := X_X4_makeMovedForms) (fr := 2) (frc := 1) (pc := 36) (mc := 0) (ms := 0) rfl (by decide) dX4_makeMovedForms_36) ?_
    refine sm_aload_n (pc := 39) (n := 0) dX4_makeMovedForms_39 rfl ?_
    refine gf_X4_66 (pc := 40) rfl dX4_makeMovedForms_40 ?_
    refine sm_iload (pc := 43) (n := 5) dX4_makeMovedForms_43 ?_
    refine sm_iaload (pc := 45) dX4_makeMovedForms_45 ?_
    refine sm_iastore (pc := 46) dX4_makeMovedForms_46 ?_
    refine sm_iinc (pc := 47) (n := 5) dX4_makeMovedForms_47 zc_i_1 ?_
    refine sm_goto (pc := 50) (tgt := 15) dX4_makeMovedForms_50 (by decide) ?_
    exact hr15
noncomputable def lX4_makeMovedForms_3 {d : Nat} (P : zP d) (r3 : zK d) : zK d := (xild 4 (xald 0 (xgfI 20 5 (xcmp tge (xvret P) (xpI 0 (xist 5 (xloop (fun r15 => (lX4_makeMovedForms_15 P r15 r3)) 100000)))))))
set_option maxRecDepth 100000 in
set_option maxHeartbeats 4000000 in
theorem slX4_makeMovedForms_3 {d : Nat} [zGh] (P : zP d) (r3 : zK d) (hr3 : zSim X_X4_makeMovedForms 2 P 3 r3) : zSim X_X4_makeMovedForms 2 P 3 (lX4_makeMovedForms_3 P r3) := by
  unfold lX4_makeMovedForms_3
  refine sm_iload (pc := 3) (n := 4) dX4_makeMovedForms_3 ?_
  refine sm_aload_n (pc := 5) (n := 0) dX4_makeMovedForms_5 rfl ?_
  refine gf_X4_39 (pc := 6) rfl dX4_makeMovedForms_6 ?_
  refine sm_icmp_ge (pc := 9) (tgt := 131) dX4_makeMovedForms_9 (by decide) ?_ ?_
  · skip
    exact sm_vreturn (pc := 131) dX4_makeMovedForms_131 rfl
  · skip
    refine sm_iconst (pc := 12) dX4_makeMovedForms_12 zc_i_0 ?_
    refine sm_istore (pc := 13) (n := 5) dX4_makeMovedForms_13 ?_
    exact sm_loop (fun r15 hr15 => slX4_makeMovedForms_15 P r15 r3 hr15 hr3) _
noncomputable def b_X4_makeMovedForms {d : Nat} (P : zP d) : zK d := (xpI 0 (xist 4 (xloop (fun r3 => (lX4_makeMovedForms_3 P r3)) 100000)))
set_option maxRecDepth 100000 in
set_option maxHeartbeats 4000000 in
theorem s_X4_makeMovedForms {d : Nat} [zGh] (P : zP d) : zSim X_X4_makeMovedForms 2 P 0 (b_X4_makeMovedForms P) := by
  unfold b_X4_makeMovedForms
  refine sm_iconst (pc := 0) dX4_makeMovedForms_0 zc_i_0 ?_
  refine sm_istore (pc := 1) (n := 4) dX4_makeMovedForms_1 ?_
  exact sm_loop (fun r3 hr3 => slX4_makeMovedForms_3 P r3 hr3) _
noncomputable def f_X4_makeMovedForms {d : Nat} : List zV → zH d → zP d → Bool := zfn 6 b_X4_makeMovedForms
theorem m_X4_makeMovedForms {d : Nat} : zMet (d := d) X_X4_makeMovedForms yX4_makeMovedForms 2 f_X4_makeMovedForms := zmet_mk (X := X_X4_makeMovedForms) (by decide) rfl rfl s_X4_makeMovedForms

abbrev X_X4_makeForms : zM := (RX4, cX4_makeForms, 5, none, "makeForms")
noncomputable def lX4_makeForms_13 {d : Nat} (P : zP d) (r13 : zK d) (r2 : zK d) : zK d := (xild 4 (xald 0 (xgfI 20 8 (xcmp tge (xinc 3 1 r2) (xald 0 (xgfR 20 11 (xild 3 (xaal (xild 4 (xald 0 (xald 0 (xgfR 20 6 (xild 3 (xaal (xild 4 (xald 1 (xcV 20 4 0 0 f_X4_codeOf (xast1 0 (fun v => v) (xinc 4 1 r13)))))))))))))))))))
set_option maxRecDepth 100000 in
set_option maxHeartbeats 4000000 in
theorem slX4_makeForms_13 {d : Nat} [zGh] (P : zP d) (r13 : zK d) (r2 : zK d) (hr13 : zSim X_X4_makeForms 3 P 13 r13) (hr2 : zSim X_X4_makeForms 3 P 2 r2) : zSim X_X4_makeForms 3 P 13 (lX4_makeForms_13 P r13 r2) := by
  unfold lX4_makeForms_13
  refine sm_iload (pc := 13) (n := 4) dX4_makeForms_13 ?_
  refine sm_aload_n (pc := 15) (n := 0) dX4_makeForms_15 rfl ?_
  refine gf_X4_60 (pc := 16) rfl dX4_makeForms_16 ?_
  refine sm_icmp_ge (pc := 19) (tgt := 50) dX4_makeForms_19 (by decide) ?_ ?_
  · skip
    refine sm_iinc (pc := 50) (n := 3) dX4_makeForms_50 zc_i_1 ?_
    refine sm_goto (pc := 53) (tgt := 2) dX4_makeForms_53 (by decide) ?_
    exact hr2
  · skip
    refine sm_aload_n (pc := 22) (n := 0) dX4_makeForms_22 rfl ?_
    refine gf_X4_86 (pc := 23) rfl dX4_makeForms_23 ?_
    refine sm_iload_n (pc := 26) (n := 3) dX4_makeForms_26 rfl ?_
    refine sm_aaload (pc := 27) dX4_makeForms_27 ?_
    refine sm_iload (pc := 28) (n := 4) dX4_makeForms_28 ?_
    refine sm_aload_n (pc := 30) (n := 0) dX4_makeForms_30 rfl ?_
    refine sm_aload_n (pc := 31) (n := 0) dX4_makeForms_31 rfl ?_
    refine gf_X4_50 (pc := 32) rfl dX4_makeForms_32 ?_
    refine sm_iload_n (pc := 35) (n := 3) dX4_makeForms_35 rfl ?_
    refine sm_aaload (pc := 36) dX4_makeForms_36 ?_
    refine sm_iload (pc := 37) (n := 4) dX4_makeForms_37 ?_
    refine sm_aload_n (pc := 39) (n := 1) dX4_makeForms_39 rfl ?_
    refine sm_cV (pc := 40) (ci := 4) (n := 4) (mc := 0) (ms := 0) rfl m_X4_codeOf (cr_X4_118 (X := X_X4_makeForms) (fr := 3) (frc := 1) (pc := 40) (mc := 0) (ms := 0) rfl (by decide) dX4_makeForms_40) ?_
    refine sm_iastore (pc := 43) dX4_makeForms_43 ?_
    refine sm_iinc (pc := 44) (n := 4) dX4_makeForms_44 zc_i_1 ?_
    refine sm_goto (pc := 47) (tgt := 13) dX4_makeForms_47 (by decide) ?_
    exact hr13
noncomputable def lX4_makeForms_2 {d : Nat} (P : zP d) (r2 : zK d) : zK d := (xild 3 (xald 0 (xgfI 20 5 (xcmp tge (xald 0 (xald 1 (xald 2 (xald 0 (xgfR 20 7 (xcV 20 4 0 0 f_X4_makeMovedForms (xvret P))))))) (xpI 0 (xist 4 (xloop (fun r13 => (lX4_makeForms_13 P r13 r2)) 100000)))))))
set_option maxRecDepth 100000 in
set_option maxHeartbeats 4000000 in
theorem slX4_makeForms_2 {d : Nat} [zGh] (P : zP d) (r2 : zK d) (hr2 : zSim X_X4_makeForms 3 P 2 r2) : zSim X_X4_makeForms 3 P 2 (lX4_makeForms_2 P r2) := by
  unfold lX4_makeForms_2
  refine sm_iload_n (pc := 2) (n := 3) dX4_makeForms_2 rfl ?_
  refine sm_aload_n (pc := 3) (n := 0) dX4_makeForms_3 rfl ?_
  refine gf_X4_39 (pc := 4) rfl dX4_makeForms_4 ?_
  refine sm_icmp_ge (pc := 7) (tgt := 56) dX4_makeForms_7 (by decide) ?_ ?_
  · skip
    refine sm_aload_n (pc := 56) (n := 0) dX4_makeForms_56 rfl ?_
    refine sm_aload_n (pc := 57) (n := 1) dX4_makeForms_57 rfl ?_
    refine sm_aload_n (pc := 58) (n := 2) dX4_makeForms_58 rfl ?_
    refine sm_aload_n (pc := 59) (n := 0) dX4_makeForms_59 rfl ?_
    refine gf_X4_89 (pc := 60) rfl dX4_makeForms_60 ?_
    refine sm_cV (pc := 63) (ci := 4) (n := 4) (mc := 0) (ms := 0) rfl m_X4_makeMovedForms (cr_X4_122 (X := X_X4_makeForms) (fr := 3) (frc := 2) (pc := 63) (mc := 0) (ms := 0) rfl (by decide) dX4_makeForms_63) ?_
    exact sm_vreturn (pc := 66) dX4_makeForms_66 rfl
  · skip
    refine sm_iconst (pc := 10) dX4_makeForms_10 zc_i_0 ?_
    refine sm_istore (pc := 11) (n := 4) dX4_makeForms_11 ?_
    exact sm_loop (fun r13 hr13 => slX4_makeForms_13 P r13 r2 hr13 hr2) _
noncomputable def b_X4_makeForms {d : Nat} (P : zP d) : zK d := (xpI 0 (xist 3 (xloop (fun r2 => (lX4_makeForms_2 P r2)) 100000)))
set_option maxRecDepth 100000 in
set_option maxHeartbeats 4000000 in
theorem s_X4_makeForms {d : Nat} [zGh] (P : zP d) : zSim X_X4_makeForms 3 P 0 (b_X4_makeForms P) := by
  unfold b_X4_makeForms
  refine sm_iconst (pc := 0) dX4_makeForms_0 zc_i_0 ?_
  refine sm_istore_n (pc := 1) (n := 3) dX4_makeForms_1 rfl ?_
  exact sm_loop (fun r2 hr2 => slX4_makeForms_2 P r2 hr2) _
noncomputable def f_X4_makeForms {d : Nat} : List zV → zH d → zP d → Bool := zfn 5 b_X4_makeForms
theorem m_X4_makeForms {d : Nat} : zMet (d := d) X_X4_makeForms yX4_makeForms 3 f_X4_makeForms := zmet_mk (X := X_X4_makeForms) (by decide) rfl rfl s_X4_makeForms

abbrev X_X4_init : zM := (RX4, cX4_init, 4, none, "<init>")
noncomputable def cX4_init_173 {d : Nat} (P : zP d) : zK d := (xgfI 20 5 (xald 0 (xgfI 20 5 (xmnaD 3 0 (xpfR 20 7 (xvret P))))))
set_option maxRecDepth 100000 in
set_option maxHeartbeats 4000000 in
theorem scX4_init_173 {d : Nat} [zGh] (P : zP d) : zSim X_X4_init 10 P 173 (cX4_init_173 P) := by
  unfold cX4_init_173
  refine gf_X4_39 (pc := 173) rfl dX4_init_173 ?_
  refine sm_aload_n (pc := 176) (n := 0) dX4_init_176 rfl ?_
  refine gf_X4_39 (pc := 177) rfl dX4_init_177 ?_
  refine sm_mnaDI (pc := 180) wd_96 wd_46 dX4_init_180 ?_
  refine pf_X4_89 (pc := 184) rfl rfl dX4_init_184 ?_
  exact sm_vreturn (pc := 187) dX4_init_187 rfl
noncomputable def cX4_init_131 {d : Nat} (P : zP d) : zK d := (xpI 0 (xcS 2 0 0 f_J7_fill_53178 (xald 0 (xpI 0 (xpI 0 (xpI 1 (xcV 20 4 0 0 f_X4_fillWays (xald 0 (xild 3 (xpI 1 (xbin zadd (xnwa 0 (xpfR 20 12 (xald 0 (xcV 20 1 0 0 f_X4_weighNumbers (xald 0 (xald 0 (xgfI 20 5 (xald 0 (xgfI 20 8 (xmnaD 3 0 (xpfR 20 11 (xald 0 (xald 0 (cX4_init_173 P)))))))))))))))))))))))))
set_option maxRecDepth 100000 in
set_option maxHeartbeats 4000000 in
theorem scX4_init_131 {d : Nat} [zGh] (P : zP d) : zSim X_X4_init 10 P 131 (cX4_init_131 P) := by
  unfold cX4_init_131
  refine sm_iconst (pc := 131) dX4_init_131 zc_i_0 ?_
  refine sm_cS (pc := 132) (n := 2) (mc := 0) (ms := 0) m_J7_fill_53178 (cr_X4_72 (X := X_X4_init) (fr := 10) (frc := 1) (pc := 132) (mc := 0) (ms := 0) rfl (by decide) dX4_init_132) ?_
  refine sm_aload_n (pc := 135) (n := 0) dX4_init_135 rfl ?_
  refine sm_iconst (pc := 136) dX4_init_136 zc_i_0 ?_
  refine sm_iconst (pc := 137) dX4_init_137 zc_i_0 ?_
  refine sm_iconst (pc := 138) dX4_init_138 zc_i_1 ?_
  refine sm_cV (pc := 139) (ci := 4) (n := 4) (mc := 0) (ms := 0) rfl m_X4_fillWays (cr_X4_76 (X := X_X4_init) (fr := 10) (frc := 9) (pc := 139) (mc := 0) (ms := 0) rfl (by decide) dX4_init_139) ?_
  refine sm_aload_n (pc := 142) (n := 0) dX4_init_142 rfl ?_
  refine sm_iload_n (pc := 143) (n := 3) dX4_init_143 rfl ?_
  refine sm_iconst (pc := 144) dX4_init_144 zc_i_1 ?_
  refine sm_iadd (pc := 145) dX4_init_145 ?_
  refine sm_newI (pc := 146) dX4_init_146 wd_46 ?_
  refine pf_X4_80 (pc := 148) rfl rfl dX4_init_148 ?_
  refine sm_aload_n (pc := 151) (n := 0) dX4_init_151 rfl ?_
  refine sm_cV (pc := 152) (ci := 4) (n := 1) (mc := 0) (ms := 0) rfl m_X4_weighNumbers (cr_X4_83 (X := X_X4_init) (fr := 10) (frc := 1) (pc := 152) (mc := 0) (ms := 0) rfl (by decide) dX4_init_152) ?_
  refine sm_aload_n (pc := 155) (n := 0) dX4_init_155 rfl ?_
  refine sm_aload_n (pc := 156) (n := 0) dX4_init_156 rfl ?_
  refine gf_X4_39 (pc := 157) rfl dX4_init_157 ?_
  refine sm_aload_n (pc := 160) (n := 0) dX4_init_160 rfl ?_
  refine gf_X4_60 (pc := 161) rfl dX4_init_161 ?_
  refine sm_mnaDI (pc := 164) wd_96 wd_46 dX4_init_164 ?_
  refine pf_X4_86 (pc := 168) rfl rfl dX4_init_168 ?_
  refine sm_aload_n (pc := 171) (n := 0) dX4_init_171 rfl ?_
  refine sm_aload_n (pc := 172) (n := 0) dX4_init_172 rfl ?_
  exact scX4_init_173 P
noncomputable def cX4_init_87 {d : Nat} (P : zP d) : zK d := (xpI 0 (xpI 0 (xcV 20 3 0 0 f_X4_fillTableaux (xald 0 (xald 0 (xcV 20 1 0 0 f_X4_countWays (xpfI 20 8 (xald 0 (xald 0 (xgfI 20 8 (xild 3 (xbin zmul (xnwa 0 (xpfR 20 9 (xald 0 (xald 0 (xgfI 20 8 (xnwa 0 (xpfR 20 10 (xald 0 (xpI 0 (xpfI 20 13 (xald 0 (xgfR 20 15 (cX4_init_131 P)))))))))))))))))))))))))
set_option maxRecDepth 100000 in
set_option maxHeartbeats 4000000 in
theorem scX4_init_87 {d : Nat} [zGh] (P : zP d) : zSim X_X4_init 10 P 87 (cX4_init_87 P) := by
  unfold cX4_init_87
  refine sm_iconst (pc := 87) dX4_init_87 zc_i_0 ?_
  refine sm_iconst (pc := 88) dX4_init_88 zc_i_0 ?_
  refine sm_cV (pc := 89) (ci := 4) (n := 3) (mc := 0) (ms := 0) rfl m_X4_fillTableaux (cr_X4_53 (X := X_X4_init) (fr := 10) (frc := 9) (pc := 89) (mc := 0) (ms := 0) rfl (by decide) dX4_init_89) ?_
  refine sm_aload_n (pc := 92) (n := 0) dX4_init_92 rfl ?_
  refine sm_aload_n (pc := 93) (n := 0) dX4_init_93 rfl ?_
  refine sm_cV (pc := 94) (ci := 4) (n := 1) (mc := 0) (ms := 0) rfl m_X4_countWays (cr_X4_57 (X := X_X4_init) (fr := 10) (frc := 2) (pc := 94) (mc := 0) (ms := 0) rfl (by decide) dX4_init_94) ?_
  refine pf_X4_60 (pc := 97) rfl rfl dX4_init_97 ?_
  refine sm_aload_n (pc := 100) (n := 0) dX4_init_100 rfl ?_
  refine sm_aload_n (pc := 101) (n := 0) dX4_init_101 rfl ?_
  refine gf_X4_60 (pc := 102) rfl dX4_init_102 ?_
  refine sm_iload_n (pc := 105) (n := 3) dX4_init_105 rfl ?_
  refine sm_imul (pc := 106) dX4_init_106 ?_
  refine sm_newI (pc := 107) dX4_init_107 wd_46 ?_
  refine pf_X4_63 (pc := 109) rfl rfl dX4_init_109 ?_
  refine sm_aload_n (pc := 112) (n := 0) dX4_init_112 rfl ?_
  refine sm_aload_n (pc := 113) (n := 0) dX4_init_113 rfl ?_
  refine gf_X4_60 (pc := 114) rfl dX4_init_114 ?_
  refine sm_newI (pc := 117) dX4_init_117 wd_46 ?_
  refine pf_X4_66 (pc := 119) rfl rfl dX4_init_119 ?_
  refine sm_aload_n (pc := 122) (n := 0) dX4_init_122 rfl ?_
  refine sm_iconst (pc := 123) dX4_init_123 zc_i_0 ?_
  refine pf_X4_69 (pc := 124) rfl dX4_init_124 ?_
  refine sm_aload_n (pc := 127) (n := 0) dX4_init_127 rfl ?_
  refine gf_X4_45 (pc := 128) rfl dX4_init_128 ?_
  exact scX4_init_131 P
noncomputable def cX4_init_42 {d : Nat} (P : zP d) : zK d := (xpfR 20 4 (xald 0 (xcV 20 1 0 0 f_X4_layOut (xald 0 (xald 0 (xcV 20 1 0 0 f_X4_countTableaux (xpfI 20 5 (xald 0 (xild 3 (xnwa 0 (xpfR 20 14 (xald 0 (xild 3 (xpI 1 (xbin zadd (xnwa 0 (xpfR 20 15 (xald 0 (xald 0 (xgfI 20 5 (xild 3 (xmnaD 3 0 (xpfR 20 6 (xald 0 (cX4_init_87 P)))))))))))))))))))))))))
set_option maxRecDepth 100000 in
set_option maxHeartbeats 4000000 in
theorem scX4_init_42 {d : Nat} [zGh] (P : zP d) : zSim X_X4_init 10 P 42 (cX4_init_42 P) := by
  unfold cX4_init_42
  refine pf_X4_29 (pc := 42) rfl rfl dX4_init_42 ?_
  refine sm_aload_n (pc := 45) (n := 0) dX4_init_45 rfl ?_
  refine sm_cV (pc := 46) (ci := 4) (n := 1) (mc := 0) (ms := 0) rfl m_X4_layOut (cr_X4_32 (X := X_X4_init) (fr := 10) (frc := 1) (pc := 46) (mc := 0) (ms := 0) rfl (by decide) dX4_init_46) ?_
  refine sm_aload_n (pc := 49) (n := 0) dX4_init_49 rfl ?_
  refine sm_aload_n (pc := 50) (n := 0) dX4_init_50 rfl ?_
  refine sm_cV (pc := 51) (ci := 4) (n := 1) (mc := 0) (ms := 0) rfl m_X4_countTableaux (cr_X4_35 (X := X_X4_init) (fr := 10) (frc := 2) (pc := 51) (mc := 0) (ms := 0) rfl (by decide) dX4_init_51) ?_
  refine pf_X4_39 (pc := 54) rfl rfl dX4_init_54 ?_
  refine sm_aload_n (pc := 57) (n := 0) dX4_init_57 rfl ?_
  refine sm_iload_n (pc := 58) (n := 3) dX4_init_58 rfl ?_
  refine sm_newI (pc := 59) dX4_init_59 wd_46 ?_
  refine pf_X4_42 (pc := 61) rfl rfl dX4_init_61 ?_
  refine sm_aload_n (pc := 64) (n := 0) dX4_init_64 rfl ?_
  refine sm_iload_n (pc := 65) (n := 3) dX4_init_65 rfl ?_
  refine sm_iconst (pc := 66) dX4_init_66 zc_i_1 ?_
  refine sm_iadd (pc := 67) dX4_init_67 ?_
  refine sm_newI (pc := 68) dX4_init_68 wd_46 ?_
  refine pf_X4_45 (pc := 70) rfl rfl dX4_init_70 ?_
  refine sm_aload_n (pc := 73) (n := 0) dX4_init_73 rfl ?_
  refine sm_aload_n (pc := 74) (n := 0) dX4_init_74 rfl ?_
  refine gf_X4_39 (pc := 75) rfl dX4_init_75 ?_
  refine sm_iload_n (pc := 78) (n := 3) dX4_init_78 rfl ?_
  refine sm_mnaDI (pc := 79) wd_96 wd_46 dX4_init_79 ?_
  refine pf_X4_50 (pc := 83) rfl rfl dX4_init_83 ?_
  refine sm_aload_n (pc := 86) (n := 0) dX4_init_86 rfl ?_
  exact scX4_init_87 P
noncomputable def b_X4_init {d : Nat} (P : zP d) : zK d := (xald 0 (xobj (xald 0 (xild 3 (xpfI 20 0 (xald 0 (xild 2 (xpfI 20 1 (xald 0 (xald 1 (xild 2 (xcS 2 1 10 f_J7_copyOf_59c91 (xpfR 20 2 (xald 0 (xald 0 (xgfR 20 2 (xpI 0 (xald1 0 (xnwa 0 (xpfR 20 3 (xald 0 (xald 0 (xgfI 20 1 (xnwa 0 (cX4_init_42 P)))))))))))))))))))))))))
set_option maxRecDepth 100000 in
set_option maxHeartbeats 4000000 in
theorem s_X4_init {d : Nat} [zGh] (P : zP d) : zSim X_X4_init 10 P 0 (b_X4_init P) := by
  unfold b_X4_init
  refine sm_aload_n (pc := 0) (n := 0) dX4_init_0 rfl ?_
  refine sm_objinit (pc := 1) wd_64 wd_21 wd_22 (by decide) dX4_init_1 ?_
  refine sm_aload_n (pc := 4) (n := 0) dX4_init_4 rfl ?_
  refine sm_iload_n (pc := 5) (n := 3) dX4_init_5 rfl ?_
  refine pf_X4_7 (pc := 6) rfl rfl dX4_init_6 ?_
  refine sm_aload_n (pc := 9) (n := 0) dX4_init_9 rfl ?_
  refine sm_iload_n (pc := 10) (n := 2) dX4_init_10 rfl ?_
  refine pf_X4_13 (pc := 11) rfl rfl dX4_init_11 ?_
  refine sm_aload_n (pc := 14) (n := 0) dX4_init_14 rfl ?_
  refine sm_aload_n (pc := 15) (n := 1) dX4_init_15 rfl ?_
  refine sm_iload_n (pc := 16) (n := 2) dX4_init_16 rfl ?_
  refine sm_cS (pc := 17) (n := 2) (mc := 1) (ms := 10) m_J7_copyOf_59c91 (cr_X4_16 (X := X_X4_init) (fr := 10) (frc := 1) (pc := 17) (mc := 1) (ms := 10) rfl (by decide) dX4_init_17) ?_
  refine pf_X4_22 (pc := 20) rfl rfl dX4_init_20 ?_
  refine sm_aload_n (pc := 23) (n := 0) dX4_init_23 rfl ?_
  refine sm_aload_n (pc := 24) (n := 0) dX4_init_24 rfl ?_
  refine gf_X4_22 (pc := 25) rfl dX4_init_25 ?_
  refine sm_iconst (pc := 28) dX4_init_28 zc_i_0 ?_
  refine sm_iaload (pc := 29) dX4_init_29 ?_
  refine sm_newI (pc := 30) dX4_init_30 wd_46 ?_
  refine pf_X4_26 (pc := 32) rfl rfl dX4_init_32 ?_
  refine sm_aload_n (pc := 35) (n := 0) dX4_init_35 rfl ?_
  refine sm_aload_n (pc := 36) (n := 0) dX4_init_36 rfl ?_
  refine gf_X4_13 (pc := 37) rfl dX4_init_37 ?_
  refine sm_newI (pc := 40) dX4_init_40 wd_46 ?_
  exact scX4_init_42 P
noncomputable def f_X4_init {d : Nat} : List zV → zH d → zP d → Bool := zfn 4 b_X4_init
theorem m_X4_init {d : Nat} : zMet (d := d) X_X4_init yX4_init 10 f_X4_init := zmet_mk (X := X_X4_init) (by decide) rfl rfl s_X4_init
end
section
/-! the class, by program -/
abbrev X_X7_numberOf : zM := (RX7, cX7_numberOf, 6, (some .int), "numberOf")
noncomputable def bX7_numberOf_72 {d : Nat} (P : zP d) (r2 : zK d) : zK d := (xinc 3 1 r2)
set_option maxRecDepth 100000 in
set_option maxHeartbeats 4000000 in
theorem sbX7_numberOf_72 {d : Nat} [zGh] (P : zP d) (r2 : zK d) (hr2 : zSim X_X7_numberOf 1 P 2 r2) : zSim X_X7_numberOf 1 P 72 (bX7_numberOf_72 P r2) := by
  unfold bX7_numberOf_72
  refine sm_iinc (pc := 72) (n := 3) dX7_numberOf_72 zc_i_1 ?_
  refine sm_goto (pc := 75) (tgt := 2) dX7_numberOf_75 (by decide) ?_
  exact hr2
noncomputable def bX7_numberOf_56 {d : Nat} (P : zP d) (r2 : zK d) : zK d := (xild 5 (xald 4 (xlen (xjoin (bX7_numberOf_72 P r2) (fun j72 => (xcmp Nat.beq (xild 5 (xild 2 (xcmp Nat.beq (xild 3 (xiret P)) j72))) j72))))))
set_option maxRecDepth 100000 in
set_option maxHeartbeats 4000000 in
theorem sbX7_numberOf_56 {d : Nat} [zGh] (P : zP d) (r2 : zK d) (hr2 : zSim X_X7_numberOf 1 P 2 r2) : zSim X_X7_numberOf 1 P 56 (bX7_numberOf_56 P r2) := by
  unfold bX7_numberOf_56
  refine sm_iload (pc := 56) (n := 5) dX7_numberOf_56 ?_
  refine sm_aload (pc := 58) (n := 4) dX7_numberOf_58 ?_
  refine sm_arraylength (pc := 60) dX7_numberOf_60 ?_
  refine sm_join (pc := 61) (pc' := 72) (sbX7_numberOf_72 P r2 hr2) (fun j72 hj72 => ?_)
  refine sm_icmp_ne (pc := 61) (tgt := 72) dX7_numberOf_61 (by decide) ?_ ?_
  · skip
    exact hj72
  · skip
    refine sm_iload (pc := 64) (n := 5) dX7_numberOf_64 ?_
    refine sm_iload_n (pc := 66) (n := 2) dX7_numberOf_66 rfl ?_
    refine sm_icmp_ne (pc := 67) (tgt := 72) dX7_numberOf_67 (by decide) ?_ ?_
    · skip
      exact hj72
    · skip
      refine sm_iload_n (pc := 70) (n := 3) dX7_numberOf_70 rfl ?_
      exact sm_ireturn (pc := 71) dX7_numberOf_71 rfl
noncomputable def lX7_numberOf_24 {d : Nat} (P : zP d) (r2 : zK d) (r24 : zK d) : zK d := (xild 5 (xald 4 (xlen (xjoin (bX7_numberOf_56 P r2) (fun j56 => (xcmp tge j56 (xild 5 (xild 2 (xcmp tge j56 (xald 4 (xild 5 (xald1 0 (xald 1 (xild 5 (xald1 0 (xcmp Nat.beq (xinc 5 1 r24) j56))))))))))))))))
set_option maxRecDepth 100000 in
set_option maxHeartbeats 4000000 in
theorem slX7_numberOf_24 {d : Nat} [zGh] (P : zP d) (r2 : zK d) (r24 : zK d) (hr2 : zSim X_X7_numberOf 1 P 2 r2) (hr24 : zSim X_X7_numberOf 1 P 24 r24) : zSim X_X7_numberOf 1 P 24 (lX7_numberOf_24 P r2 r24) := by
  unfold lX7_numberOf_24
  refine sm_iload (pc := 24) (n := 5) dX7_numberOf_24 ?_
  refine sm_aload (pc := 26) (n := 4) dX7_numberOf_26 ?_
  refine sm_arraylength (pc := 28) dX7_numberOf_28 ?_
  refine sm_join (pc := 29) (pc' := 56) (sbX7_numberOf_56 P r2 hr2) (fun j56 hj56 => ?_)
  refine sm_icmp_ge (pc := 29) (tgt := 56) dX7_numberOf_29 (by decide) ?_ ?_
  · skip
    exact hj56
  · skip
    refine sm_iload (pc := 32) (n := 5) dX7_numberOf_32 ?_
    refine sm_iload_n (pc := 34) (n := 2) dX7_numberOf_34 rfl ?_
    refine sm_icmp_ge (pc := 35) (tgt := 56) dX7_numberOf_35 (by decide) ?_ ?_
    · skip
      exact hj56
    · skip
      refine sm_aload (pc := 38) (n := 4) dX7_numberOf_38 ?_
      refine sm_iload (pc := 40) (n := 5) dX7_numberOf_40 ?_
      refine sm_iaload (pc := 42) dX7_numberOf_42 ?_
      refine sm_aload_n (pc := 43) (n := 1) dX7_numberOf_43 rfl ?_
      refine sm_iload (pc := 44) (n := 5) dX7_numberOf_44 ?_
      refine sm_iaload (pc := 46) dX7_numberOf_46 ?_
      refine sm_icmp_ne (pc := 47) (tgt := 56) dX7_numberOf_47 (by decide) ?_ ?_
      · skip
        exact hj56
      · skip
        refine sm_iinc (pc := 50) (n := 5) dX7_numberOf_50 zc_i_1 ?_
        refine sm_goto (pc := 53) (tgt := 24) dX7_numberOf_53 (by decide) ?_
        exact hr24
noncomputable def lX7_numberOf_2 {d : Nat} (P : zP d) (r2 : zK d) : zK d := (xild 3 (xald 0 (xgfI 23 1 (xcmp tge (xpI 4294967295 (xiret P)) (xald 0 (xgfR 23 3 (xild 3 (xaal (xgfR 20 2 (xast 4 (xpI 0 (xist 5 (xloop (fun r24 => (lX7_numberOf_24 P r2 r24)) 100000)))))))))))))
set_option maxRecDepth 100000 in
set_option maxHeartbeats 4000000 in
theorem slX7_numberOf_2 {d : Nat} [zGh] (P : zP d) (r2 : zK d) (hr2 : zSim X_X7_numberOf 1 P 2 r2) : zSim X_X7_numberOf 1 P 2 (lX7_numberOf_2 P r2) := by
  unfold lX7_numberOf_2
  refine sm_iload_n (pc := 2) (n := 3) dX7_numberOf_2 rfl ?_
  refine sm_aload_n (pc := 3) (n := 0) dX7_numberOf_3 rfl ?_
  refine gf_X7_19 (pc := 4) rfl dX7_numberOf_4 ?_
  refine sm_icmp_ge (pc := 7) (tgt := 78) dX7_numberOf_7 (by decide) ?_ ?_
  · skip
    refine sm_iconst (pc := 78) dX7_numberOf_78 zc_i_m1 ?_
    exact sm_ireturn (pc := 79) dX7_numberOf_79 rfl
  · skip
    refine sm_aload_n (pc := 10) (n := 0) dX7_numberOf_10 rfl ?_
    refine gf_X7_24 (pc := 11) rfl dX7_numberOf_11 ?_
    refine sm_iload_n (pc := 14) (n := 3) dX7_numberOf_14 rfl ?_
    refine sm_aaload (pc := 15) dX7_numberOf_15 ?_
    refine gf_X7_98 (pc := 16) rfl dX7_numberOf_16 ?_
    refine sm_astore (pc := 19) (n := 4) dX7_numberOf_19 ?_
    refine sm_iconst (pc := 21) dX7_numberOf_21 zc_i_0 ?_
    refine sm_istore (pc := 22) (n := 5) dX7_numberOf_22 ?_
    exact sm_loop (fun r24 hr24 => slX7_numberOf_24 P r2 r24 hr2 hr24) _
noncomputable def b_X7_numberOf {d : Nat} (P : zP d) : zK d := (xpI 0 (xist 3 (xloop (fun r2 => (lX7_numberOf_2 P r2)) 100000)))
set_option maxRecDepth 100000 in
set_option maxHeartbeats 4000000 in
theorem s_X7_numberOf {d : Nat} [zGh] (P : zP d) : zSim X_X7_numberOf 1 P 0 (b_X7_numberOf P) := by
  unfold b_X7_numberOf
  refine sm_iconst (pc := 0) dX7_numberOf_0 zc_i_0 ?_
  refine sm_istore_n (pc := 1) (n := 3) dX7_numberOf_1 rfl ?_
  exact sm_loop (fun r2 hr2 => slX7_numberOf_2 P r2 hr2) _
noncomputable def f_X7_numberOf {d : Nat} : List zV → zH d → zP d → Bool := zfn 6 b_X7_numberOf
theorem m_X7_numberOf {d : Nat} : zMet (d := d) X_X7_numberOf yX7_numberOf 1 f_X7_numberOf := zmet_mk (X := X_X7_numberOf) (by decide) rfl rfl s_X7_numberOf

abbrev X_X7_stepOn : zM := (RX7, cX7_stepOn, 6, (some .int), "stepOn")
noncomputable def bX7_stepOn_82 {d : Nat} (P : zP d) : zK d := (xild 5 (xiret P))
set_option maxRecDepth 100000 in
set_option maxHeartbeats 4000000 in
theorem sbX7_stepOn_82 {d : Nat} [zGh] (P : zP d) : zSim X_X7_stepOn 1 P 82 (bX7_stepOn_82 P) := by
  unfold bX7_stepOn_82
  refine sm_iload (pc := 82) (n := 5) dX7_stepOn_82 ?_
  exact sm_ireturn (pc := 84) dX7_stepOn_84 rfl
noncomputable def lX7_stepOn_48 {d : Nat} (P : zP d) (r48 : zK d) : zK d := (xild 3 (xjoin (bX7_stepOn_82 P) (fun j82 => (xif0 t0le j82 (xild 5 (xald 0 (xlen (xcmp tge j82 (xald 0 (xild 5 (xild 4 (xild 3 (xmm zmin (xast1 0 (fun v => v) (xild 3 (xald 0 (xild 5 (xald1 0 (xbin zsub (xist 3 (xinc 5 1 r48)))))))))))))))))))))
set_option maxRecDepth 100000 in
set_option maxHeartbeats 4000000 in
theorem slX7_stepOn_48 {d : Nat} [zGh] (P : zP d) (r48 : zK d) (hr48 : zSim X_X7_stepOn 1 P 48 r48) : zSim X_X7_stepOn 1 P 48 (lX7_stepOn_48 P r48) := by
  unfold lX7_stepOn_48
  refine sm_iload_n (pc := 48) (n := 3) dX7_stepOn_48 rfl ?_
  refine sm_join (pc := 49) (pc' := 82) (sbX7_stepOn_82 P) (fun j82 hj82 => ?_)
  refine sm_if_le (pc := 49) (tgt := 82) dX7_stepOn_49 (by decide) ?_ ?_
  · skip
    exact hj82
  · skip
    refine sm_iload (pc := 52) (n := 5) dX7_stepOn_52 ?_
    refine sm_aload_n (pc := 54) (n := 0) dX7_stepOn_54 rfl ?_
    refine sm_arraylength (pc := 55) dX7_stepOn_55 ?_
    refine sm_icmp_ge (pc := 56) (tgt := 82) dX7_stepOn_56 (by decide) ?_ ?_
    · skip
      exact hj82
    · skip
      refine sm_aload_n (pc := 59) (n := 0) dX7_stepOn_59 rfl ?_
      refine sm_iload (pc := 60) (n := 5) dX7_stepOn_60 ?_
      refine sm_iload (pc := 62) (n := 4) dX7_stepOn_62 ?_
      refine sm_iload_n (pc := 64) (n := 3) dX7_stepOn_64 rfl ?_
      refine sm_mmin (pc := 65) wd_192 wd_76 wd_6 wd_77 (by decide) dX7_stepOn_65 ?_
      refine sm_iastore (pc := 68) dX7_stepOn_68 ?_
      refine sm_iload_n (pc := 69) (n := 3) dX7_stepOn_69 rfl ?_
      refine sm_aload_n (pc := 70) (n := 0) dX7_stepOn_70 rfl ?_
      refine sm_iload (pc := 71) (n := 5) dX7_stepOn_71 ?_
      refine sm_iaload (pc := 73) dX7_stepOn_73 ?_
      refine sm_isub (pc := 74) dX7_stepOn_74 ?_
      refine sm_istore_n (pc := 75) (n := 3) dX7_stepOn_75 rfl ?_
      refine sm_iinc (pc := 76) (n := 5) dX7_stepOn_76 zc_i_1 ?_
      refine sm_goto (pc := 79) (tgt := 48) dX7_stepOn_79 (by decide) ?_
      exact hr48
noncomputable def bX7_stepOn_21 {d : Nat} (P : zP d) : zK d := (xild 2 (xif0 t0ge (xild 1 (xild 2 (xbin zsub (xist 3 (xald 0 (xild 2 (xald1 0 (xpI 1 (xbin zsub (xist 4 (xald 0 (xild 2 (xild 4 (xast1 0 (fun v => v) (xild 2 (xpI 1 (xbin zadd (xist 5 (xloop (fun r48 => (lX7_stepOn_48 P r48)) 100000))))))))))))))))))) (xild 1 (xiret P))))
set_option maxRecDepth 100000 in
set_option maxHeartbeats 4000000 in
theorem sbX7_stepOn_21 {d : Nat} [zGh] (P : zP d) : zSim X_X7_stepOn 1 P 21 (bX7_stepOn_21 P) := by
  unfold bX7_stepOn_21
  refine sm_iload_n (pc := 21) (n := 2) dX7_stepOn_21 rfl ?_
  refine sm_if_ge (pc := 22) (tgt := 27) dX7_stepOn_22 (by decide) ?_ ?_
  · skip
    refine sm_iload_n (pc := 27) (n := 1) dX7_stepOn_27 rfl ?_
    refine sm_iload_n (pc := 28) (n := 2) dX7_stepOn_28 rfl ?_
    refine sm_isub (pc := 29) dX7_stepOn_29 ?_
    refine sm_istore_n (pc := 30) (n := 3) dX7_stepOn_30 rfl ?_
    refine sm_aload_n (pc := 31) (n := 0) dX7_stepOn_31 rfl ?_
    refine sm_iload_n (pc := 32) (n := 2) dX7_stepOn_32 rfl ?_
    refine sm_iaload (pc := 33) dX7_stepOn_33 ?_
    refine sm_iconst (pc := 34) dX7_stepOn_34 zc_i_1 ?_
    refine sm_isub (pc := 35) dX7_stepOn_35 ?_
    refine sm_istore (pc := 36) (n := 4) dX7_stepOn_36 ?_
    refine sm_aload_n (pc := 38) (n := 0) dX7_stepOn_38 rfl ?_
    refine sm_iload_n (pc := 39) (n := 2) dX7_stepOn_39 rfl ?_
    refine sm_iload (pc := 40) (n := 4) dX7_stepOn_40 ?_
    refine sm_iastore (pc := 42) dX7_stepOn_42 ?_
    refine sm_iload_n (pc := 43) (n := 2) dX7_stepOn_43 rfl ?_
    refine sm_iconst (pc := 44) dX7_stepOn_44 zc_i_1 ?_
    refine sm_iadd (pc := 45) dX7_stepOn_45 ?_
    refine sm_istore (pc := 46) (n := 5) dX7_stepOn_46 ?_
    exact sm_loop (fun r48 hr48 => slX7_stepOn_48 P r48 hr48) _
  · skip
    refine sm_iload_n (pc := 25) (n := 1) dX7_stepOn_25 rfl ?_
    exact sm_ireturn (pc := 26) dX7_stepOn_26 rfl
noncomputable def lX7_stepOn_4 {d : Nat} (P : zP d) (r4 : zK d) : zK d := (xild 2 (xjoin (bX7_stepOn_21 P) (fun j21 => (xif0 t0ge (xald 0 (xild 2 (xald1 0 (xpI 1 (xcmp Nat.beq (xinc 2 4294967295 r4) j21))))) j21))))
set_option maxRecDepth 100000 in
set_option maxHeartbeats 4000000 in
theorem slX7_stepOn_4 {d : Nat} [zGh] (P : zP d) (r4 : zK d) (hr4 : zSim X_X7_stepOn 1 P 4 r4) : zSim X_X7_stepOn 1 P 4 (lX7_stepOn_4 P r4) := by
  unfold lX7_stepOn_4
  refine sm_iload_n (pc := 4) (n := 2) dX7_stepOn_4 rfl ?_
  refine sm_join (pc := 5) (pc' := 21) (sbX7_stepOn_21 P) (fun j21 hj21 => ?_)
  refine sm_if_lt (pc := 5) (tgt := 21) dX7_stepOn_5 (by decide) ?_ ?_
  · skip
    exact hj21
  · skip
    refine sm_aload_n (pc := 8) (n := 0) dX7_stepOn_8 rfl ?_
    refine sm_iload_n (pc := 9) (n := 2) dX7_stepOn_9 rfl ?_
    refine sm_iaload (pc := 10) dX7_stepOn_10 ?_
    refine sm_iconst (pc := 11) dX7_stepOn_11 zc_i_1 ?_
    refine sm_icmp_ne (pc := 12) (tgt := 21) dX7_stepOn_12 (by decide) ?_ ?_
    · skip
      exact hj21
    · skip
      refine sm_iinc (pc := 15) (n := 2) dX7_stepOn_15 zc_i_m1 ?_
      refine sm_goto (pc := 18) (tgt := 4) dX7_stepOn_18 (by decide) ?_
      exact hr4
noncomputable def b_X7_stepOn {d : Nat} (P : zP d) : zK d := (xild 1 (xpI 1 (xbin zsub (xist 2 (xloop (fun r4 => (lX7_stepOn_4 P r4)) 100000)))))
set_option maxRecDepth 100000 in
set_option maxHeartbeats 4000000 in
theorem s_X7_stepOn {d : Nat} [zGh] (P : zP d) : zSim X_X7_stepOn 1 P 0 (b_X7_stepOn P) := by
  unfold b_X7_stepOn
  refine sm_iload_n (pc := 0) (n := 1) dX7_stepOn_0 rfl ?_
  refine sm_iconst (pc := 1) dX7_stepOn_1 zc_i_1 ?_
  refine sm_isub (pc := 2) dX7_stepOn_2 ?_
  refine sm_istore_n (pc := 3) (n := 2) dX7_stepOn_3 rfl ?_
  exact sm_loop (fun r4 hr4 => slX7_stepOn_4 P r4 hr4) _
noncomputable def f_X7_stepOn {d : Nat} : List zV → zH d → zP d → Bool := zfn 6 b_X7_stepOn
theorem m_X7_stepOn {d : Nat} : zMet (d := d) X_X7_stepOn yX7_stepOn 1 f_X7_stepOn := zmet_mk (X := X_X7_stepOn) (by decide) rfl rfl s_X7_stepOn

abbrev X_X7_makeShapes : zM := (RX7, cX7_makeShapes, 4, none, "makeShapes")
noncomputable def lX7_makeShapes_18 {d : Nat} (P : zP d) (r18 : zK d) : zK d := (xild 3 (xald 0 (xgfI 23 1 (xcmp tge (xvret P) (xald 0 (xgfR 23 3 (xild 3 (xnew 20 16 (xdup (xald 1 (xild 2 (xald 0 (xgfI 23 0 (xcV 20 4 64 6000 f_X4_init (xaas 5 20 (xald 1 (xild 2 (xcS 2 0 0 f_X7_stepOn (xist 2 (xinc 3 1 r18))))))))))))))))))))
set_option maxRecDepth 100000 in
set_option maxHeartbeats 4000000 in
theorem slX7_makeShapes_18 {d : Nat} [zGh] (P : zP d) (r18 : zK d) (hr18 : zSim X_X7_makeShapes 11 P 18 r18) : zSim X_X7_makeShapes 11 P 18 (lX7_makeShapes_18 P r18) := by
  unfold lX7_makeShapes_18
  refine sm_iload_n (pc := 18) (n := 3) dX7_makeShapes_18 rfl ?_
  refine sm_aload_n (pc := 19) (n := 0) dX7_makeShapes_19 rfl ?_
  refine gf_X7_19 (pc := 20) rfl dX7_makeShapes_20 ?_
  refine sm_icmp_ge (pc := 23) (tgt := 57) dX7_makeShapes_23 (by decide) ?_ ?_
  · skip
    exact sm_vreturn (pc := 57) dX7_makeShapes_57 rfl
  · skip
    refine sm_aload_n (pc := 26) (n := 0) dX7_makeShapes_26 rfl ?_
    refine gf_X7_24 (pc := 27) rfl dX7_makeShapes_27 ?_
    refine sm_iload_n (pc := 30) (n := 3) dX7_makeShapes_30 rfl ?_
    refine sm_new (pc := 31) (ci := 4) (C := RX4) (T := TX4) (N := 16) (ty0 := tyX4) rfl rfl (by decide) (by decide) inz4 tyX4_ok rfl wd_54 wd_60 wd_4 dX7_makeShapes_31 ?_
    refine sm_dup (pc := 34) dX7_makeShapes_34 ?_
    refine sm_aload_n (pc := 35) (n := 1) dX7_makeShapes_35 rfl ?_
    refine sm_iload_n (pc := 36) (n := 2) dX7_makeShapes_36 rfl ?_
    refine sm_aload_n (pc := 37) (n := 0) dX7_makeShapes_37 rfl ?_
    refine gf_X7_9 (pc := 38) rfl dX7_makeShapes_38 ?_
    refine sm_cV (pc := 41) (ci := 4) (n := 4) (mc := 64) (ms := 6000) rfl m_X4_init (cr_X7_101 (X := X_X7_makeShapes) (fr := 11) (frc := 10) (pc := 41) (mc := 64) (ms := 6000) rfl (by decide) dX7_makeShapes_41) ?_
    refine sm_aastore (pc := 44) (kc := 5) (ci := 4) (by decide) (by decide) rfl rfl (fun _ => rfl) dX7_makeShapes_44 ?_
    refine sm_aload_n (pc := 45) (n := 1) dX7_makeShapes_45 rfl ?_
    refine sm_iload_n (pc := 46) (n := 2) dX7_makeShapes_46 rfl ?_
    refine sm_cS (pc := 47) (n := 2) (mc := 0) (ms := 0) m_X7_stepOn (cr_X7_104 (X := X_X7_makeShapes) (fr := 11) (frc := 1) (pc := 47) (mc := 0) (ms := 0) rfl (by decide) dX7_makeShapes_47) ?_
    refine sm_istore_n (pc := 50) (n := 2) dX7_makeShapes_50 rfl ?_
    refine sm_iinc (pc := 51) (n := 3) dX7_makeShapes_51 zc_i_1 ?_
    refine sm_goto (pc := 54) (tgt := 18) dX7_makeShapes_54 (by decide) ?_
    exact hr18
noncomputable def b_X7_makeShapes {d : Nat} (P : zP d) : zK d := (xald 0 (xgfI 23 0 (xnwa 0 (xast 1 (xald 1 (xpI 0 (xald 0 (xgfI 23 0 (xast1 0 (fun v => v) (xpI 1 (xist 2 (xpI 0 (xist 3 (xloop (fun r18 => (lX7_makeShapes_18 P r18)) 100000))))))))))))))
set_option maxRecDepth 100000 in
set_option maxHeartbeats 4000000 in
theorem s_X7_makeShapes {d : Nat} [zGh] (P : zP d) : zSim X_X7_makeShapes 11 P 0 (b_X7_makeShapes P) := by
  unfold b_X7_makeShapes
  refine sm_aload_n (pc := 0) (n := 0) dX7_makeShapes_0 rfl ?_
  refine gf_X7_9 (pc := 1) rfl dX7_makeShapes_1 ?_
  refine sm_newI (pc := 4) dX7_makeShapes_4 wd_46 ?_
  refine sm_astore_n (pc := 6) (n := 1) dX7_makeShapes_6 rfl ?_
  refine sm_aload_n (pc := 7) (n := 1) dX7_makeShapes_7 rfl ?_
  refine sm_iconst (pc := 8) dX7_makeShapes_8 zc_i_0 ?_
  refine sm_aload_n (pc := 9) (n := 0) dX7_makeShapes_9 rfl ?_
  refine gf_X7_9 (pc := 10) rfl dX7_makeShapes_10 ?_
  refine sm_iastore (pc := 13) dX7_makeShapes_13 ?_
  refine sm_iconst (pc := 14) dX7_makeShapes_14 zc_i_1 ?_
  refine sm_istore_n (pc := 15) (n := 2) dX7_makeShapes_15 rfl ?_
  refine sm_iconst (pc := 16) dX7_makeShapes_16 zc_i_0 ?_
  refine sm_istore_n (pc := 17) (n := 3) dX7_makeShapes_17 rfl ?_
  exact sm_loop (fun r18 hr18 => slX7_makeShapes_18 P r18 hr18) _
noncomputable def f_X7_makeShapes {d : Nat} : List zV → zH d → zP d → Bool := zfn 4 b_X7_makeShapes
theorem m_X7_makeShapes {d : Nat} : zMet (d := d) X_X7_makeShapes yX7_makeShapes 11 f_X7_makeShapes := zmet_mk (X := X_X7_makeShapes) (by decide) rfl rfl s_X7_makeShapes

abbrev X_X7_leastMultiple : zM := (RX7, cX7_leastMultiple, 4, (some .int), "leastMultiple")
noncomputable def bX7_leastMultiple_25 {d : Nat} (P : zP d) : zK d := (xild 2 (xiret P))
set_option maxRecDepth 100000 in
set_option maxHeartbeats 4000000 in
theorem sbX7_leastMultiple_25 {d : Nat} [zGh] (P : zP d) : zSim X_X7_leastMultiple 1 P 25 (bX7_leastMultiple_25 P) := by
  unfold bX7_leastMultiple_25
  refine sm_iload_n (pc := 25) (n := 2) dX7_leastMultiple_25 rfl ?_
  exact sm_ireturn (pc := 26) dX7_leastMultiple_26 rfl
noncomputable def lX7_leastMultiple_4 {d : Nat} (P : zP d) (r4 : zK d) : zK d := (xild 3 (xild 1 (xjoin (bX7_leastMultiple_25 P) (fun j25 => (xcmp tge j25 (xild 2 (xild 1 (xbinN zrem (xif0 t0eq j25 (xild 2 (xild 0 (xbin zadd (xist 2 (xinc 3 1 r4))))))))))))))
set_option maxRecDepth 100000 in
set_option maxHeartbeats 4000000 in
theorem slX7_leastMultiple_4 {d : Nat} [zGh] (P : zP d) (r4 : zK d) (hr4 : zSim X_X7_leastMultiple 1 P 4 r4) : zSim X_X7_leastMultiple 1 P 4 (lX7_leastMultiple_4 P r4) := by
  unfold lX7_leastMultiple_4
  refine sm_iload_n (pc := 4) (n := 3) dX7_leastMultiple_4 rfl ?_
  refine sm_iload_n (pc := 5) (n := 1) dX7_leastMultiple_5 rfl ?_
  refine sm_join (pc := 6) (pc' := 25) (sbX7_leastMultiple_25 P) (fun j25 hj25 => ?_)
  refine sm_icmp_ge (pc := 6) (tgt := 25) dX7_leastMultiple_6 (by decide) ?_ ?_
  · skip
    exact hj25
  · skip
    refine sm_iload_n (pc := 9) (n := 2) dX7_leastMultiple_9 rfl ?_
    refine sm_iload_n (pc := 10) (n := 1) dX7_leastMultiple_10 rfl ?_
    refine sm_irem (pc := 11) dX7_leastMultiple_11 ?_
    refine sm_if_eq (pc := 12) (tgt := 25) dX7_leastMultiple_12 (by decide) ?_ ?_
    · skip
      exact hj25
    · skip
      refine sm_iload_n (pc := 15) (n := 2) dX7_leastMultiple_15 rfl ?_
      refine sm_iload_n (pc := 16) (n := 0) dX7_leastMultiple_16 rfl ?_
      refine sm_iadd (pc := 17) dX7_leastMultiple_17 ?_
      refine sm_istore_n (pc := 18) (n := 2) dX7_leastMultiple_18 rfl ?_
      refine sm_iinc (pc := 19) (n := 3) dX7_leastMultiple_19 zc_i_1 ?_
      refine sm_goto (pc := 22) (tgt := 4) dX7_leastMultiple_22 (by decide) ?_
      exact hr4
noncomputable def b_X7_leastMultiple {d : Nat} (P : zP d) : zK d := (xild 0 (xist 2 (xpI 1 (xist 3 (xloop (fun r4 => (lX7_leastMultiple_4 P r4)) 100000)))))
set_option maxRecDepth 100000 in
set_option maxHeartbeats 4000000 in
theorem s_X7_leastMultiple {d : Nat} [zGh] (P : zP d) : zSim X_X7_leastMultiple 1 P 0 (b_X7_leastMultiple P) := by
  unfold b_X7_leastMultiple
  refine sm_iload_n (pc := 0) (n := 0) dX7_leastMultiple_0 rfl ?_
  refine sm_istore_n (pc := 1) (n := 2) dX7_leastMultiple_1 rfl ?_
  refine sm_iconst (pc := 2) dX7_leastMultiple_2 zc_i_1 ?_
  refine sm_istore_n (pc := 3) (n := 3) dX7_leastMultiple_3 rfl ?_
  exact sm_loop (fun r4 hr4 => slX7_leastMultiple_4 P r4 hr4) _
noncomputable def f_X7_leastMultiple {d : Nat} : List zV → zH d → zP d → Bool := zfn 4 b_X7_leastMultiple
theorem m_X7_leastMultiple {d : Nat} : zMet (d := d) X_X7_leastMultiple yX7_leastMultiple 1 f_X7_leastMultiple := zmet_mk (X := X_X7_leastMultiple) (by decide) rfl rfl s_X7_leastMultiple

abbrev X_X7_describeClass : zM := (RX7, cX7_describeClass, 9, none, "describeClass")
noncomputable def bX7_describeClass_206 {d : Nat} (P : zP d) : zK d := (xast1 0 (fun v => v) (xvret P))
set_option maxRecDepth 100000 in
set_option maxHeartbeats 4000000 in
theorem sbX7_describeClass_206 {d : Nat} [zGh] (P : zP d) : zSim X_X7_describeClass 2 P 206 (bX7_describeClass_206 P) := by
  unfold bX7_describeClass_206
  refine sm_iastore (pc := 206) dX7_describeClass_206 ?_
  exact sm_vreturn (pc := 207) dX7_describeClass_207 rfl
noncomputable def lX7_describeClass_133 {d : Nat} (P : zP d) (r133 : zK d) (r35 : zK d) : zK d := (xild 8 (xild 7 (xcmp tge (xild 3 (xild 7 (xbin zadd (xist 3 (xinc 6 1 r35))))) (xald 0 (xgfR 23 10 (xild 1 (xaal (xild 3 (xild 8 (xbin zadd (xild 3 (xild 8 (xpI 1 (xbin zadd (xild 7 (xbinN zrem (xbin zadd (xast1 0 (fun v => v) (xinc 8 1 r133)))))))))))))))))))
set_option maxRecDepth 100000 in
set_option maxHeartbeats 4000000 in
theorem slX7_describeClass_133 {d : Nat} [zGh] (P : zP d) (r133 : zK d) (r35 : zK d) (hr133 : zSim X_X7_describeClass 2 P 133 r133) (hr35 : zSim X_X7_describeClass 2 P 35 r35) : zSim X_X7_describeClass 2 P 133 (lX7_describeClass_133 P r133 r35) := by
  unfold lX7_describeClass_133
  refine sm_iload (pc := 133) (n := 8) dX7_describeClass_133 ?_
  refine sm_iload (pc := 135) (n := 7) dX7_describeClass_135 ?_
  refine sm_icmp_ge (pc := 137) (tgt := 166) dX7_describeClass_137 (by decide) ?_ ?_
  · skip
    refine sm_iload_n (pc := 166) (n := 3) dX7_describeClass_166 rfl ?_
    refine sm_iload (pc := 167) (n := 7) dX7_describeClass_167 ?_
    refine sm_iadd (pc := 169) dX7_describeClass_169 ?_
    refine sm_istore_n (pc := 170) (n := 3) dX7_describeClass_170 rfl ?_
    refine sm_iinc (pc := 171) (n := 6) dX7_describeClass_171 zc_i_1 ?_
    refine sm_goto (pc := 174) (tgt := 35) dX7_describeClass_174 (by decide) ?_
    exact hr35
  · skip
    refine sm_aload_n (pc := 140) (n := 0) dX7_describeClass_140 rfl ?_
    refine gf_X7_58 (pc := 141) rfl dX7_describeClass_141 ?_
    refine sm_iload_n (pc := 144) (n := 1) dX7_describeClass_144 rfl ?_
    refine sm_aaload (pc := 145) dX7_describeClass_145 ?_
    refine sm_iload_n (pc := 146) (n := 3) dX7_describeClass_146 rfl ?_
    refine sm_iload (pc := 147) (n := 8) dX7_describeClass_147 ?_
    refine sm_iadd (pc := 149) dX7_describeClass_149 ?_
    refine sm_iload_n (pc := 150) (n := 3) dX7_describeClass_150 rfl ?_
    refine sm_iload (pc := 151) (n := 8) dX7_describeClass_151 ?_
    refine sm_iconst (pc := 153) dX7_describeClass_153 zc_i_1 ?_
    refine sm_iadd (pc := 154) dX7_describeClass_154 ?_
    refine sm_iload (pc := 155) (n := 7) dX7_describeClass_155 ?_
    refine sm_irem (pc := 157) dX7_describeClass_157 ?_
    refine sm_iadd (pc := 158) dX7_describeClass_158 ?_
    refine sm_iastore (pc := 159) dX7_describeClass_159 ?_
    refine sm_iinc (pc := 160) (n := 8) dX7_describeClass_160 zc_i_1 ?_
    refine sm_goto (pc := 163) (tgt := 133) dX7_describeClass_163 (by decide) ?_
    exact hr133
noncomputable def bX7_describeClass_129 {d : Nat} (P : zP d) (r35 : zK d) : zK d := (xast1 0 (fun v => v) (xpI 0 (xist 8 (xloop (fun r133 => (lX7_describeClass_133 P r133 r35)) 100000))))
set_option maxRecDepth 100000 in
set_option maxHeartbeats 4000000 in
theorem sbX7_describeClass_129 {d : Nat} [zGh] (P : zP d) (r35 : zK d) (hr35 : zSim X_X7_describeClass 2 P 35 r35) : zSim X_X7_describeClass 2 P 129 (bX7_describeClass_129 P r35) := by
  unfold bX7_describeClass_129
  refine sm_iastore (pc := 129) dX7_describeClass_129 ?_
  refine sm_iconst (pc := 130) dX7_describeClass_130 zc_i_0 ?_
  refine sm_istore (pc := 131) (n := 8) dX7_describeClass_131 ?_
  exact sm_loop (fun r133 hr133 => slX7_describeClass_133 P r133 r35 hr133 hr35) _
noncomputable def cX7_describeClass_123 {d : Nat} (P : zP d) (j129 : zK d) : zK d := (xald 0 (xgfR 23 7 (xild 1 (xald1 0 j129))))
set_option maxRecDepth 100000 in
set_option maxHeartbeats 4000000 in
theorem scX7_describeClass_123 {d : Nat} [zGh] (P : zP d) (j129 : zK d) (hj129 : zSim X_X7_describeClass 2 P 129 j129) : zSim X_X7_describeClass 2 P 123 (cX7_describeClass_123 P j129) := by
  unfold cX7_describeClass_123
  refine sm_aload_n (pc := 123) (n := 0) dX7_describeClass_123 rfl ?_
  refine gf_X7_47 (pc := 124) rfl dX7_describeClass_124 ?_
  refine sm_iload_n (pc := 127) (n := 1) dX7_describeClass_127 rfl ?_
  refine sm_iaload (pc := 128) dX7_describeClass_128 ?_
  exact hj129
noncomputable def cX7_describeClass_113 {d : Nat} (P : zP d) (j129 : zK d) : zK d := (xald 0 (xgfR 23 7 (xild 1 (xald1 0 (xun zneg j129)))))
set_option maxRecDepth 100000 in
set_option maxHeartbeats 4000000 in
theorem scX7_describeClass_113 {d : Nat} [zGh] (P : zP d) (j129 : zK d) (hj129 : zSim X_X7_describeClass 2 P 129 j129) : zSim X_X7_describeClass 2 P 113 (cX7_describeClass_113 P j129) := by
  unfold cX7_describeClass_113
  refine sm_aload_n (pc := 113) (n := 0) dX7_describeClass_113 rfl ?_
  refine gf_X7_47 (pc := 114) rfl dX7_describeClass_114 ?_
  refine sm_iload_n (pc := 117) (n := 1) dX7_describeClass_117 rfl ?_
  refine sm_iaload (pc := 118) dX7_describeClass_118 ?_
  refine sm_ineg (pc := 119) dX7_describeClass_119 ?_
  refine sm_goto (pc := 120) (tgt := 129) dX7_describeClass_120 (by decide) ?_
  exact hj129
noncomputable def bX7_describeClass_72 {d : Nat} (P : zP d) (r35 : zK d) : zK d := (xist 4 (xild 5 (xild 7 (xild 4 (xbin zmul (xbin zmul (xist 5 (xald 0 (xgfR 23 6 (xild 1 (xald 0 (xgfR 23 6 (xild 1 (xald1 0 (xild 7 (xcS 2 0 0 f_X7_leastMultiple (xast1 0 (fun v => v) (xald 0 (xgfR 23 7 (xild 1 (xild 7 (xpI 2 (xbinN zrem (xjoin (bX7_describeClass_129 P r35) (fun j129 => (xif0 t0eq (cX7_describeClass_113 P j129) (cX7_describeClass_123 P j129)))))))))))))))))))))))))))
set_option maxRecDepth 100000 in
set_option maxHeartbeats 4000000 in
theorem sbX7_describeClass_72 {d : Nat} [zGh] (P : zP d) (r35 : zK d) (hr35 : zSim X_X7_describeClass 2 P 35 r35) : zSim X_X7_describeClass 2 P 72 (bX7_describeClass_72 P r35) := by
  unfold bX7_describeClass_72
  refine sm_istore (pc := 72) (n := 4) dX7_describeClass_72 ?_
  refine sm_iload (pc := 74) (n := 5) dX7_describeClass_74 ?_
  refine sm_iload (pc := 76) (n := 7) dX7_describeClass_76 ?_
  refine sm_iload (pc := 78) (n := 4) dX7_describeClass_78 ?_
  refine sm_imul (pc := 80) dX7_describeClass_80 ?_
  refine sm_imul (pc := 81) dX7_describeClass_81 ?_
  refine sm_istore (pc := 82) (n := 5) dX7_describeClass_82 ?_
  refine sm_aload_n (pc := 84) (n := 0) dX7_describeClass_84 rfl ?_
  refine gf_X7_44 (pc := 85) rfl dX7_describeClass_85 ?_
  refine sm_iload_n (pc := 88) (n := 1) dX7_describeClass_88 rfl ?_
  refine sm_aload_n (pc := 89) (n := 0) dX7_describeClass_89 rfl ?_
  refine gf_X7_44 (pc := 90) rfl dX7_describeClass_90 ?_
  refine sm_iload_n (pc := 93) (n := 1) dX7_describeClass_93 rfl ?_
  refine sm_iaload (pc := 94) dX7_describeClass_94 ?_
  refine sm_iload (pc := 95) (n := 7) dX7_describeClass_95 ?_
  refine sm_cS (pc := 97) (n := 2) (mc := 0) (ms := 0) m_X7_leastMultiple (cr_X7_113 (X := X_X7_describeClass) (fr := 2) (frc := 1) (pc := 97) (mc := 0) (ms := 0) rfl (by decide) dX7_describeClass_97) ?_
  refine sm_iastore (pc := 100) dX7_describeClass_100 ?_
  refine sm_aload_n (pc := 101) (n := 0) dX7_describeClass_101 rfl ?_
  refine gf_X7_47 (pc := 102) rfl dX7_describeClass_102 ?_
  refine sm_iload_n (pc := 105) (n := 1) dX7_describeClass_105 rfl ?_
  refine sm_iload (pc := 106) (n := 7) dX7_describeClass_106 ?_
  refine sm_iconst (pc := 108) dX7_describeClass_108 zc_i_2 ?_
  refine sm_irem (pc := 109) dX7_describeClass_109 ?_
  refine sm_join (pc := 110) (pc' := 129) (sbX7_describeClass_129 P r35 hr35) (fun j129 hj129 => ?_)
  refine sm_if_ne (pc := 110) (tgt := 123) dX7_describeClass_110 (by decide) ?_ ?_
  · skip
    exact scX7_describeClass_123 P j129 hj129
  · skip
    exact scX7_describeClass_113 P j129 hj129
noncomputable def bX7_describeClass_71 {d : Nat} (P : zP d) (j72 : zK d) : zK d := (xpI 1 j72)
set_option maxRecDepth 100000 in
set_option maxHeartbeats 4000000 in
theorem sbX7_describeClass_71 {d : Nat} [zGh] (P : zP d) (j72 : zK d) (hj72 : zSim X_X7_describeClass 2 P 72 j72) : zSim X_X7_describeClass 2 P 71 (bX7_describeClass_71 P j72) := by
  unfold bX7_describeClass_71
  refine sm_iconst (pc := 71) dX7_describeClass_71 zc_i_1 ?_
  exact hj72
noncomputable def lX7_describeClass_35 {d : Nat} (P : zP d) (r35 : zK d) : zK d := (xild 6 (xald 2 (xlen (xcmp tge (xald 0 (xgfR 23 8 (xild 1 (xild 5 (xast1 0 (fun v => v) (xald 0 (xgfR 23 5 (xild 1 (xild 5 (xjoin (bX7_describeClass_206 P) (fun j206 => (xif0 t0le (xpI 0 j206) (xald 0 (xgfI 23 2 (xild 5 (xbinN zdiv j206)))))))))))))))) (xald 2 (xild 6 (xald1 0 (xist 7 (xild 6 (xjoin (bX7_describeClass_72 P r35) (fun j72 => (xjoin (bX7_describeClass_71 P j72) (fun j71 => (xif0 t0le j71 (xald 2 (xild 6 (xpI 1 (xbin zsub (xald1 0 (xild 7 (xcmp Nat.beq (xild 4 (xpI 1 (xbin zadd j72))) j71)))))))))))))))))))))
set_option maxRecDepth 100000 in
set_option maxHeartbeats 4000000 in
theorem slX7_describeClass_35 {d : Nat} [zGh] (P : zP d) (r35 : zK d) (hr35 : zSim X_X7_describeClass 2 P 35 r35) : zSim X_X7_describeClass 2 P 35 (lX7_describeClass_35 P r35) := by
  unfold lX7_describeClass_35
  refine sm_iload (pc := 35) (n := 6) dX7_describeClass_35 ?_
  refine sm_aload_n (pc := 37) (n := 2) dX7_describeClass_37 rfl ?_
  refine sm_arraylength (pc := 38) dX7_describeClass_38 ?_
  refine sm_icmp_ge (pc := 39) (tgt := 177) dX7_describeClass_39 (by decide) ?_ ?_
  · skip
    refine sm_aload_n (pc := 177) (n := 0) dX7_describeClass_177 rfl ?_
    refine gf_X7_50 (pc := 178) rfl dX7_describeClass_178 ?_
    refine sm_iload_n (pc := 181) (n := 1) dX7_describeClass_181 rfl ?_
    refine sm_iload (pc := 182) (n := 5) dX7_describeClass_182 ?_
    refine sm_iastore (pc := 184) dX7_describeClass_184 ?_
    refine sm_aload_n (pc := 185) (n := 0) dX7_describeClass_185 rfl ?_
    refine gf_X7_41 (pc := 186) rfl dX7_describeClass_186 ?_
    refine sm_iload_n (pc := 189) (n := 1) dX7_describeClass_189 rfl ?_
    refine sm_iload (pc := 190) (n := 5) dX7_describeClass_190 ?_
    refine sm_join (pc := 192) (pc' := 206) (sbX7_describeClass_206 P) (fun j206 hj206 => ?_)
    refine sm_if_le (pc := 192) (tgt := 205) dX7_describeClass_192 (by decide) ?_ ?_
    · skip
      refine sm_iconst (pc := 205) dX7_describeClass_205 zc_i_0 ?_
      exact hj206
    · skip
      refine sm_aload_n (pc := 195) (n := 0) dX7_describeClass_195 rfl ?_
      refine gf_X7_35 (pc := 196) rfl dX7_describeClass_196 ?_
      refine sm_iload (pc := 199) (n := 5) dX7_describeClass_199 ?_
      refine sm_idiv (pc := 201) dX7_describeClass_201 ?_
      refine sm_goto (pc := 202) (tgt := 206) dX7_describeClass_202 (by decide) ?_
      exact hj206
  · skip
    refine sm_aload_n (pc := 42) (n := 2) dX7_describeClass_42 rfl ?_
    refine sm_iload (pc := 43) (n := 6) dX7_describeClass_43 ?_
    refine sm_iaload (pc := 45) dX7_describeClass_45 ?_
    refine sm_istore (pc := 46) (n := 7) dX7_describeClass_46 ?_
    refine sm_iload (pc := 48) (n := 6) dX7_describeClass_48 ?_
    refine sm_join (pc := 50) (pc' := 72) (sbX7_describeClass_72 P r35 hr35) (fun j72 hj72 => ?_)
    refine sm_join (pc := 50) (pc' := 71) (sbX7_describeClass_71 P j72 hj72) (fun j71 hj71 => ?_)
    refine sm_if_le (pc := 50) (tgt := 71) dX7_describeClass_50 (by decide) ?_ ?_
    · skip
      exact hj71
    · skip
      refine sm_aload_n (pc := 53) (n := 2) dX7_describeClass_53 rfl ?_
      refine sm_iload (pc := 54) (n := 6) dX7_describeClass_54 ?_
      refine sm_iconst (pc := 56) dX7_describeClass_56 zc_i_1 ?_
      refine sm_isub (pc := 57) dX7_describeClass_57 ?_
      refine sm_iaload (pc := 58) dX7_describeClass_58 ?_
      refine sm_iload (pc := 59) (n := 7) dX7_describeClass_59 ?_
      refine sm_icmp_ne (pc := 61) (tgt := 71) dX7_describeClass_61 (by decide) ?_ ?_
      · skip
        exact hj71
      · skip
        refine sm_iload (pc := 64) (n := 4) dX7_describeClass_64 ?_
        refine sm_iconst (pc := 66) dX7_describeClass_66 zc_i_1 ?_
        refine sm_iadd (pc := 67) dX7_describeClass_67 ?_
        refine sm_goto (pc := 68) (tgt := 72) dX7_describeClass_68 (by decide) ?_
        exact hj72
noncomputable def b_X7_describeClass {d : Nat} (P : zP d) : zK d := (xald 0 (xgfR 23 3 (xild 1 (xaal (xgfR 20 2 (xast 2 (xpI 1 (xist 3 (xpI 0 (xist 4 (xpI 1 (xist 5 (xald 0 (xgfR 23 6 (xild 1 (xpI 1 (xast1 0 (fun v => v) (xald 0 (xgfR 23 7 (xild 1 (xpI 1 (xast1 0 (fun v => v) (xpI 0 (xist 6 (xloop (fun r35 => (lX7_describeClass_35 P r35)) 100000)))))))))))))))))))))))))
set_option maxRecDepth 100000 in
set_option maxHeartbeats 4000000 in
theorem s_X7_describeClass {d : Nat} [zGh] (P : zP d) : zSim X_X7_describeClass 2 P 0 (b_X7_describeClass P) := by
  unfold b_X7_describeClass
  refine sm_aload_n (pc := 0) (n := 0) dX7_describeClass_0 rfl ?_
  refine gf_X7_24 (pc := 1) rfl dX7_describeClass_1 ?_
  refine sm_iload_n (pc := 4) (n := 1) dX7_describeClass_4 rfl ?_
  refine sm_aaload (pc := 5) dX7_describeClass_5 ?_
  refine gf_X7_98 (pc := 6) rfl dX7_describeClass_6 ?_
  refine sm_astore_n (pc := 9) (n := 2) dX7_describeClass_9 rfl ?_
  refine sm_iconst (pc := 10) dX7_describeClass_10 zc_i_1 ?_
  refine sm_istore_n (pc := 11) (n := 3) dX7_describeClass_11 rfl ?_
  refine sm_iconst (pc := 12) dX7_describeClass_12 zc_i_0 ?_
  refine sm_istore (pc := 13) (n := 4) dX7_describeClass_13 ?_
  refine sm_iconst (pc := 15) dX7_describeClass_15 zc_i_1 ?_
  refine sm_istore (pc := 16) (n := 5) dX7_describeClass_16 ?_
  refine sm_aload_n (pc := 18) (n := 0) dX7_describeClass_18 rfl ?_
  refine gf_X7_44 (pc := 19) rfl dX7_describeClass_19 ?_
  refine sm_iload_n (pc := 22) (n := 1) dX7_describeClass_22 rfl ?_
  refine sm_iconst (pc := 23) dX7_describeClass_23 zc_i_1 ?_
  refine sm_iastore (pc := 24) dX7_describeClass_24 ?_
  refine sm_aload_n (pc := 25) (n := 0) dX7_describeClass_25 rfl ?_
  refine gf_X7_47 (pc := 26) rfl dX7_describeClass_26 ?_
  refine sm_iload_n (pc := 29) (n := 1) dX7_describeClass_29 rfl ?_
  refine sm_iconst (pc := 30) dX7_describeClass_30 zc_i_1 ?_
  refine sm_iastore (pc := 31) dX7_describeClass_31 ?_
  refine sm_iconst (pc := 32) dX7_describeClass_32 zc_i_0 ?_
  refine sm_istore (pc := 33) (n := 6) dX7_describeClass_33 ?_
  exact sm_loop (fun r35 hr35 => slX7_describeClass_35 P r35 hr35) _
noncomputable def f_X7_describeClass {d : Nat} : List zV → zH d → zP d → Bool := zfn 9 b_X7_describeClass
theorem m_X7_describeClass {d : Nat} : zMet (d := d) X_X7_describeClass yX7_describeClass 2 f_X7_describeClass := zmet_mk (X := X_X7_describeClass) (by decide) rfl rfl s_X7_describeClass

abbrev X_X7_raise : zM := (RX7, cX7_raise, 9, (some .int), "raise")
noncomputable def bX7_raise_84 {d : Nat} (P : zP d) (r17 : zK d) : zK d := (xinc 6 1 r17)
set_option maxRecDepth 100000 in
set_option maxHeartbeats 4000000 in
theorem sbX7_raise_84 {d : Nat} [zGh] (P : zP d) (r17 : zK d) (hr17 : zSim X_X7_raise 2 P 17 r17) : zSim X_X7_raise 2 P 84 (bX7_raise_84 P r17) := by
  unfold bX7_raise_84
  refine sm_iinc (pc := 84) (n := 6) dX7_raise_84 zc_i_1 ?_
  refine sm_goto (pc := 87) (tgt := 17) dX7_raise_87 (by decide) ?_
  exact hr17
noncomputable def lX7_raise_55 {d : Nat} (P : zP d) (j84 : zK d) (r55 : zK d) : zK d := (xild 8 (xild 7 (xcmp tge j84 (xild 4 (xald 3 (xlen (xcmp tge j84 (xald 3 (xild 4 (xild 5 (xast1 0 (fun v => v) (xinc 4 1 (xinc 8 1 r55)))))))))))))
set_option maxRecDepth 100000 in
set_option maxHeartbeats 4000000 in
theorem slX7_raise_55 {d : Nat} [zGh] (P : zP d) (j84 : zK d) (r55 : zK d) (hj84 : zSim X_X7_raise 2 P 84 j84) (hr55 : zSim X_X7_raise 2 P 55 r55) : zSim X_X7_raise 2 P 55 (lX7_raise_55 P j84 r55) := by
  unfold lX7_raise_55
  refine sm_iload (pc := 55) (n := 8) dX7_raise_55 ?_
  refine sm_iload (pc := 57) (n := 7) dX7_raise_57 ?_
  refine sm_icmp_ge (pc := 59) (tgt := 84) dX7_raise_59 (by decide) ?_ ?_
  · skip
    exact hj84
  · skip
    refine sm_iload (pc := 62) (n := 4) dX7_raise_62 ?_
    refine sm_aload_n (pc := 64) (n := 3) dX7_raise_64 rfl ?_
    refine sm_arraylength (pc := 65) dX7_raise_65 ?_
    refine sm_icmp_ge (pc := 66) (tgt := 84) dX7_raise_66 (by decide) ?_ ?_
    · skip
      exact hj84
    · skip
      refine sm_aload_n (pc := 69) (n := 3) dX7_raise_69 rfl ?_
      refine sm_iload (pc := 70) (n := 4) dX7_raise_70 ?_
      refine sm_iload (pc := 72) (n := 5) dX7_raise_72 ?_
      refine sm_iastore (pc := 74) dX7_raise_74 ?_
      refine sm_iinc (pc := 75) (n := 4) dX7_raise_75 zc_i_1 ?_
      refine sm_iinc (pc := 78) (n := 8) dX7_raise_78 zc_i_1 ?_
      refine sm_goto (pc := 81) (tgt := 55) dX7_raise_81 (by decide) ?_
      exact hr55
noncomputable def lX7_raise_17 {d : Nat} (P : zP d) (r17 : zK d) (r9 : zK d) : zK d := (xild 6 (xald 1 (xlen (xcmp tge (xinc 5 4294967295 r9) (xald 1 (xild 6 (xald1 0 (xi2l (xild 2 (xi2l (xcS 2 0 0 f_X8_greatestDivisor (xl2i (xist 7 (xild 7 (xild 5 (xbin zmul (xald 1 (xild 6 (xald1 0 (xjoin (bX7_raise_84 P r17) (fun j84 => (xcmp Nat.beq (xpI 0 (xist 8 (xloop (fun r55 => (lX7_raise_55 P j84 r55)) 100000))) j84))))))))))))))))))))))
set_option maxRecDepth 100000 in
set_option maxHeartbeats 4000000 in
theorem slX7_raise_17 {d : Nat} [zGh] (P : zP d) (r17 : zK d) (r9 : zK d) (hr17 : zSim X_X7_raise 2 P 17 r17) (hr9 : zSim X_X7_raise 2 P 9 r9) : zSim X_X7_raise 2 P 17 (lX7_raise_17 P r17 r9) := by
  unfold lX7_raise_17
  refine sm_iload (pc := 17) (n := 6) dX7_raise_17 ?_
  refine sm_aload_n (pc := 19) (n := 1) dX7_raise_19 rfl ?_
  refine sm_arraylength (pc := 20) dX7_raise_20 ?_
  refine sm_icmp_ge (pc := 21) (tgt := 90) dX7_raise_21 (by decide) ?_ ?_
  · skip
    refine sm_iinc (pc := 90) (n := 5) dX7_raise_90 zc_i_m1 ?_
    refine sm_goto (pc := 93) (tgt := 9) dX7_raise_93 (by decide) ?_
    exact hr9
  · skip
    refine sm_aload_n (pc := 24) (n := 1) dX7_raise_24 rfl ?_
    refine sm_iload (pc := 25) (n := 6) dX7_raise_25 ?_
    refine sm_iaload (pc := 27) dX7_raise_27 ?_
    refine sm_i2l (pc := 28) dX7_raise_28 ?_
    refine sm_iload_n (pc := 29) (n := 2) dX7_raise_29 rfl ?_
    refine sm_i2l (pc := 30) dX7_raise_30 ?_
    refine sm_cS (pc := 31) (n := 2) (mc := 0) (ms := 0) m_X8_greatestDivisor (cr_X7_120 (X := X_X7_raise) (fr := 2) (frc := 1) (pc := 31) (mc := 0) (ms := 0) rfl (by decide) dX7_raise_31) ?_
    refine sm_l2i (pc := 34) dX7_raise_34 ?_
    refine sm_istore (pc := 35) (n := 7) dX7_raise_35 ?_
    refine sm_iload (pc := 37) (n := 7) dX7_raise_37 ?_
    refine sm_iload (pc := 39) (n := 5) dX7_raise_39 ?_
    refine sm_imul (pc := 41) dX7_raise_41 ?_
    refine sm_aload_n (pc := 42) (n := 1) dX7_raise_42 rfl ?_
    refine sm_iload (pc := 43) (n := 6) dX7_raise_43 ?_
    refine sm_iaload (pc := 45) dX7_raise_45 ?_
    refine sm_join (pc := 46) (pc' := 84) (sbX7_raise_84 P r17 hr17) (fun j84 hj84 => ?_)
    refine sm_icmp_eq (pc := 46) (tgt := 52) dX7_raise_46 (by decide) ?_ ?_
    · skip
      refine sm_iconst (pc := 52) dX7_raise_52 zc_i_0 ?_
      refine sm_istore (pc := 53) (n := 8) dX7_raise_53 ?_
      exact sm_loop (fun r55 hr55 => slX7_raise_55 P j84 r55 hj84 hr55) _
    · skip
      refine sm_goto (pc := 49) (tgt := 84) dX7_raise_49 (by decide) ?_
      exact hj84
noncomputable def lX7_raise_9 {d : Nat} (P : zP d) (r9 : zK d) : zK d := (xild 5 (xif0 t0le (xild 4 (xiret P)) (xpI 0 (xist 6 (xloop (fun r17 => (lX7_raise_17 P r17 r9)) 100000)))))
set_option maxRecDepth 100000 in
set_option maxHeartbeats 4000000 in
theorem slX7_raise_9 {d : Nat} [zGh] (P : zP d) (r9 : zK d) (hr9 : zSim X_X7_raise 2 P 9 r9) : zSim X_X7_raise 2 P 9 (lX7_raise_9 P r9) := by
  unfold lX7_raise_9
  refine sm_iload (pc := 9) (n := 5) dX7_raise_9 ?_
  refine sm_if_le (pc := 11) (tgt := 96) dX7_raise_11 (by decide) ?_ ?_
  · skip
    refine sm_iload (pc := 96) (n := 4) dX7_raise_96 ?_
    exact sm_ireturn (pc := 98) dX7_raise_98 rfl
  · skip
    refine sm_iconst (pc := 14) dX7_raise_14 zc_i_0 ?_
    refine sm_istore (pc := 15) (n := 6) dX7_raise_15 ?_
    exact sm_loop (fun r17 hr17 => slX7_raise_17 P r17 r9 hr17 hr9) _
noncomputable def b_X7_raise {d : Nat} (P : zP d) : zK d := (xpI 0 (xist 4 (xald 0 (xgfI 23 0 (xist 5 (xloop (fun r9 => (lX7_raise_9 P r9)) 100000))))))
set_option maxRecDepth 100000 in
set_option maxHeartbeats 4000000 in
theorem s_X7_raise {d : Nat} [zGh] (P : zP d) : zSim X_X7_raise 2 P 0 (b_X7_raise P) := by
  unfold b_X7_raise
  refine sm_iconst (pc := 0) dX7_raise_0 zc_i_0 ?_
  refine sm_istore (pc := 1) (n := 4) dX7_raise_1 ?_
  refine sm_aload_n (pc := 3) (n := 0) dX7_raise_3 rfl ?_
  refine gf_X7_9 (pc := 4) rfl dX7_raise_4 ?_
  refine sm_istore (pc := 7) (n := 5) dX7_raise_7 ?_
  exact sm_loop (fun r9 hr9 => slX7_raise_9 P r9 hr9) _
noncomputable def f_X7_raise {d : Nat} : List zV → zH d → zP d → Bool := zfn 9 b_X7_raise
theorem m_X7_raise {d : Nat} : zMet (d := d) X_X7_raise yX7_raise 2 f_X7_raise := zmet_mk (X := X_X7_raise) (by decide) rfl rfl s_X7_raise

abbrev X_X7_makePowers : zM := (RX7, cX7_makePowers, 4, none, "makePowers")
noncomputable def lX7_makePowers_19 {d : Nat} (P : zP d) (r19 : zK d) (r9 : zK d) : zK d := (xild 3 (xpI 6 (xcmp tle (xald 0 (xgfR 23 9 (xild 2 (xaal (xild 3 (xald 0 (xald 1 (xald 0 (xald 0 (xgfR 23 3 (xild 2 (xaal (xgfR 20 2 (xild 3 (xald 1 (xcV 23 4 0 0 f_X7_raise (xcV 23 3 0 0 f_X7_numberOf (xast1 0 (fun v => v) (xinc 3 1 r19))))))))))))))))))) (xinc 2 1 r9))))
set_option maxRecDepth 100000 in
set_option maxHeartbeats 4000000 in
theorem slX7_makePowers_19 {d : Nat} [zGh] (P : zP d) (r19 : zK d) (r9 : zK d) (hr19 : zSim X_X7_makePowers 3 P 19 r19) (hr9 : zSim X_X7_makePowers 3 P 9 r9) : zSim X_X7_makePowers 3 P 19 (lX7_makePowers_19 P r19 r9) := by
  unfold lX7_makePowers_19
  refine sm_iload_n (pc := 19) (n := 3) dX7_makePowers_19 rfl ?_
  refine sm_bipush (pc := 20) dX7_makePowers_20 zc_b_6 ?_
  refine sm_icmp_gt (pc := 22) (tgt := 59) dX7_makePowers_22 (by decide) ?_ ?_
  · skip
    refine sm_iinc (pc := 59) (n := 2) dX7_makePowers_59 zc_i_1 ?_
    refine sm_goto (pc := 62) (tgt := 9) dX7_makePowers_62 (by decide) ?_
    exact hr9
  · skip
    refine sm_aload_n (pc := 25) (n := 0) dX7_makePowers_25 rfl ?_
    refine gf_X7_55 (pc := 26) rfl dX7_makePowers_26 ?_
    refine sm_iload_n (pc := 29) (n := 2) dX7_makePowers_29 rfl ?_
    refine sm_aaload (pc := 30) dX7_makePowers_30 ?_
    refine sm_iload_n (pc := 31) (n := 3) dX7_makePowers_31 rfl ?_
    refine sm_aload_n (pc := 32) (n := 0) dX7_makePowers_32 rfl ?_
    refine sm_aload_n (pc := 33) (n := 1) dX7_makePowers_33 rfl ?_
    refine sm_aload_n (pc := 34) (n := 0) dX7_makePowers_34 rfl ?_
    refine sm_aload_n (pc := 35) (n := 0) dX7_makePowers_35 rfl ?_
    refine gf_X7_24 (pc := 36) rfl dX7_makePowers_36 ?_
    refine sm_iload_n (pc := 39) (n := 2) dX7_makePowers_39 rfl ?_
    refine sm_aaload (pc := 40) dX7_makePowers_40 ?_
    refine gf_X7_98 (pc := 41) rfl dX7_makePowers_41 ?_
    refine sm_iload_n (pc := 44) (n := 3) dX7_makePowers_44 rfl ?_
    refine sm_aload_n (pc := 45) (n := 1) dX7_makePowers_45 rfl ?_
    refine sm_cV (pc := 46) (ci := 7) (n := 4) (mc := 0) (ms := 0) rfl m_X7_raise (cr_X7_116 (X := X_X7_makePowers) (fr := 3) (frc := 2) (pc := 46) (mc := 0) (ms := 0) rfl (by decide) dX7_makePowers_46) ?_
    refine sm_cV (pc := 49) (ci := 7) (n := 3) (mc := 0) (ms := 0) rfl m_X7_numberOf (cr_X7_74 (X := X_X7_makePowers) (fr := 3) (frc := 1) (pc := 49) (mc := 0) (ms := 0) rfl (by decide) dX7_makePowers_49) ?_
    refine sm_iastore (pc := 52) dX7_makePowers_52 ?_
    refine sm_iinc (pc := 53) (n := 3) dX7_makePowers_53 zc_i_1 ?_
    refine sm_goto (pc := 56) (tgt := 19) dX7_makePowers_56 (by decide) ?_
    exact hr19
noncomputable def lX7_makePowers_9 {d : Nat} (P : zP d) (r9 : zK d) : zK d := (xild 2 (xald 0 (xgfI 23 1 (xcmp tge (xvret P) (xpI 1 (xist 3 (xloop (fun r19 => (lX7_makePowers_19 P r19 r9)) 100000)))))))
set_option maxRecDepth 100000 in
set_option maxHeartbeats 4000000 in
theorem slX7_makePowers_9 {d : Nat} [zGh] (P : zP d) (r9 : zK d) (hr9 : zSim X_X7_makePowers 3 P 9 r9) : zSim X_X7_makePowers 3 P 9 (lX7_makePowers_9 P r9) := by
  unfold lX7_makePowers_9
  refine sm_iload_n (pc := 9) (n := 2) dX7_makePowers_9 rfl ?_
  refine sm_aload_n (pc := 10) (n := 0) dX7_makePowers_10 rfl ?_
  refine gf_X7_19 (pc := 11) rfl dX7_makePowers_11 ?_
  refine sm_icmp_ge (pc := 14) (tgt := 65) dX7_makePowers_14 (by decide) ?_ ?_
  · skip
    exact sm_vreturn (pc := 65) dX7_makePowers_65 rfl
  · skip
    refine sm_iconst (pc := 17) dX7_makePowers_17 zc_i_1 ?_
    refine sm_istore_n (pc := 18) (n := 3) dX7_makePowers_18 rfl ?_
    exact sm_loop (fun r19 hr19 => slX7_makePowers_19 P r19 r9 hr19 hr9) _
noncomputable def b_X7_makePowers {d : Nat} (P : zP d) : zK d := (xald 0 (xgfI 23 0 (xnwa 0 (xast 1 (xpI 0 (xist 2 (xloop (fun r9 => (lX7_makePowers_9 P r9)) 100000)))))))
set_option maxRecDepth 100000 in
set_option maxHeartbeats 4000000 in
theorem s_X7_makePowers {d : Nat} [zGh] (P : zP d) : zSim X_X7_makePowers 3 P 0 (b_X7_makePowers P) := by
  unfold b_X7_makePowers
  refine sm_aload_n (pc := 0) (n := 0) dX7_makePowers_0 rfl ?_
  refine gf_X7_9 (pc := 1) rfl dX7_makePowers_1 ?_
  refine sm_newI (pc := 4) dX7_makePowers_4 wd_46 ?_
  refine sm_astore_n (pc := 6) (n := 1) dX7_makePowers_6 rfl ?_
  refine sm_iconst (pc := 7) dX7_makePowers_7 zc_i_0 ?_
  refine sm_istore_n (pc := 8) (n := 2) dX7_makePowers_8 rfl ?_
  exact sm_loop (fun r9 hr9 => slX7_makePowers_9 P r9 hr9) _
noncomputable def f_X7_makePowers {d : Nat} : List zV → zH d → zP d → Bool := zfn 4 b_X7_makePowers
theorem m_X7_makePowers {d : Nat} : zMet (d := d) X_X7_makePowers yX7_makePowers 3 f_X7_makePowers := zmet_mk (X := X_X7_makePowers) (by decide) rfl rfl s_X7_makePowers

abbrev X_X7_placings : zM := (RX7, cX7_placings, 6, (some .int), "placings")
noncomputable def bX7_placings_63 {d : Nat} (self : List zV → zH d → zP d → Bool) (P : zP d) (r18 : zK d) : zK d := (xinc 5 1 r18)
set_option maxRecDepth 100000 in
set_option maxHeartbeats 4000000 in
theorem sbX7_placings_63 {d : Nat} [zGh] (n : Nat) (self : List zV → zH d → zP d → Bool) (hself : zMet X_X7_placings yX7_placings (1 + n) self) (P : zP d) (r18 : zK d) (hr18 : zSim X_X7_placings (1 + (n + 1)) P 18 r18) : zSim X_X7_placings (1 + (n + 1)) P 63 (bX7_placings_63 self P r18) := by
  unfold bX7_placings_63
  refine sm_iinc (pc := 63) (n := 5) dX7_placings_63 zc_i_1 ?_
  refine sm_goto (pc := 66) (tgt := 18) dX7_placings_66 (by decide) ?_
  exact hr18
noncomputable def cX7_placings_53 {d : Nat} (self : List zV → zH d → zP d → Bool) (P : zP d) (j63 : zK d) : zK d := (xist 3 (xald 2 (xild 5 (xdup2 (xald1 0 (xild 4 (xbin zadd (xast1 0 (fun v => v) j63))))))))
set_option maxRecDepth 100000 in
set_option maxHeartbeats 4000000 in
theorem scX7_placings_53 {d : Nat} [zGh] (n : Nat) (self : List zV → zH d → zP d → Bool) (hself : zMet X_X7_placings yX7_placings (1 + n) self) (P : zP d) (j63 : zK d) (hj63 : zSim X_X7_placings (1 + (n + 1)) P 63 j63) : zSim X_X7_placings (1 + (n + 1)) P 53 (cX7_placings_53 self P j63) := by
  unfold cX7_placings_53
  refine sm_istore_n (pc := 53) (n := 3) dX7_placings_53 rfl ?_
  refine sm_aload_n (pc := 54) (n := 2) dX7_placings_54 rfl ?_
  refine sm_iload (pc := 55) (n := 5) dX7_placings_55 ?_
  refine sm_dup2 (pc := 57) dX7_placings_57 ?_
  refine sm_iaload (pc := 58) dX7_placings_58 ?_
  refine sm_iload (pc := 59) (n := 4) dX7_placings_59 ?_
  refine sm_iadd (pc := 61) dX7_placings_61 ?_
  refine sm_iastore (pc := 62) dX7_placings_62 ?_
  exact hj63
noncomputable def lX7_placings_18 {d : Nat} (self : List zV → zH d → zP d → Bool) (P : zP d) (r18 : zK d) : zK d := (xild 5 (xald 2 (xlen (xcmp tge (xild 3 (xiret P)) (xald 2 (xild 5 (xald1 0 (xild 4 (xjoin (bX7_placings_63 self P r18) (fun j63 => (xcmp tge (xald 2 (xild 5 (xdup2 (xald1 0 (xild 4 (xbin zsub (xast1 0 (fun v => v) (xild 3 (xald 0 (xild 1 (xpI 1 (xbin zadd (xald 2 (xcS 3 0 0 self (xbin zadd (cX7_placings_53 self P j63)))))))))))))))) j63)))))))))))
set_option maxRecDepth 100000 in
set_option maxHeartbeats 4000000 in
theorem slX7_placings_18 {d : Nat} [zGh] (n : Nat) (self : List zV → zH d → zP d → Bool) (hself : zMet X_X7_placings yX7_placings (1 + n) self) (P : zP d) (r18 : zK d) (hr18 : zSim X_X7_placings (1 + (n + 1)) P 18 r18) : zSim X_X7_placings (1 + (n + 1)) P 18 (lX7_placings_18 self P r18) := by
  unfold lX7_placings_18
  refine sm_iload (pc := 18) (n := 5) dX7_placings_18 ?_
  refine sm_aload_n (pc := 20) (n := 2) dX7_placings_20 rfl ?_
  refine sm_arraylength (pc := 21) dX7_placings_21 ?_
  refine sm_icmp_ge (pc := 22) (tgt := 69) dX7_placings_22 (by decide) ?_ ?_
  · skip
    refine sm_iload_n (pc := 69) (n := 3) dX7_placings_69 rfl ?_
    exact sm_ireturn (pc := 70) dX7_placings_70 rfl
  · skip
    refine sm_aload_n (pc := 25) (n := 2) dX7_placings_25 rfl ?_
    refine sm_iload (pc := 26) (n := 5) dX7_placings_26 ?_
    refine sm_iaload (pc := 28) dX7_placings_28 ?_
    refine sm_iload (pc := 29) (n := 4) dX7_placings_29 ?_
    refine sm_join (pc := 31) (pc' := 63) (sbX7_placings_63 n self hself P r18 hr18) (fun j63 hj63 => ?_)
    refine sm_icmp_lt (pc := 31) (tgt := 63) dX7_placings_31 (by decide) ?_ ?_
    · skip
      exact hj63
    · skip
      refine sm_aload_n (pc := 34) (n := 2) dX7_placings_34 rfl ?_
      refine sm_iload (pc := 35) (n := 5) dX7_placings_35 ?_
      refine sm_dup2 (pc := 37) dX7_placings_37 ?_
      refine sm_iaload (pc := 38) dX7_placings_38 ?_
      refine sm_iload (pc := 39) (n := 4) dX7_placings_39 ?_
      refine sm_isub (pc := 41) dX7_placings_41 ?_
      refine sm_iastore (pc := 42) dX7_placings_42 ?_
      refine sm_iload_n (pc := 43) (n := 3) dX7_placings_43 rfl ?_
      refine sm_aload_n (pc := 44) (n := 0) dX7_placings_44 rfl ?_
      refine sm_iload_n (pc := 45) (n := 1) dX7_placings_45 rfl ?_
      refine sm_iconst (pc := 46) dX7_placings_46 zc_i_1 ?_
      refine sm_iadd (pc := 47) dX7_placings_47 ?_
      refine sm_aload_n (pc := 48) (n := 2) dX7_placings_48 rfl ?_
      refine sm_cS (pc := 49) (n := 3) (mc := 0) (ms := 0) hself (cr_X7_129 (X := X_X7_placings) (fr := 1 + (n + 1)) (frc := 1 + n) (pc := 49) (mc := 0) (ms := 0) rfl (by omega) dX7_placings_49) ?_
      refine sm_iadd (pc := 52) dX7_placings_52 ?_
      exact scX7_placings_53 n self hself P j63 hj63
noncomputable def b_X7_placings {d : Nat} (self : List zV → zH d → zP d → Bool) (P : zP d) : zK d := (xild 1 (xald 0 (xlen (xcmp tge (xpI 1 (xiret P)) (xpI 0 (xist 3 (xald 0 (xild 1 (xald1 0 (xist 4 (xpI 0 (xist 5 (xloop (fun r18 => (lX7_placings_18 self P r18)) 100000)))))))))))))
set_option maxRecDepth 100000 in
set_option maxHeartbeats 4000000 in
theorem s_X7_placings {d : Nat} [zGh] (n : Nat) (self : List zV → zH d → zP d → Bool) (hself : zMet X_X7_placings yX7_placings (1 + n) self) (P : zP d) : zSim X_X7_placings (1 + (n + 1)) P 0 (b_X7_placings self P) := by
  unfold b_X7_placings
  refine sm_iload_n (pc := 0) (n := 1) dX7_placings_0 rfl ?_
  refine sm_aload_n (pc := 1) (n := 0) dX7_placings_1 rfl ?_
  refine sm_arraylength (pc := 2) dX7_placings_2 ?_
  refine sm_icmp_lt (pc := 3) (tgt := 8) dX7_placings_3 (by decide) ?_ ?_
  · skip
    refine sm_iconst (pc := 8) dX7_placings_8 zc_i_0 ?_
    refine sm_istore_n (pc := 9) (n := 3) dX7_placings_9 rfl ?_
    refine sm_aload_n (pc := 10) (n := 0) dX7_placings_10 rfl ?_
    refine sm_iload_n (pc := 11) (n := 1) dX7_placings_11 rfl ?_
    refine sm_iaload (pc := 12) dX7_placings_12 ?_
    refine sm_istore (pc := 13) (n := 4) dX7_placings_13 ?_
    refine sm_iconst (pc := 15) dX7_placings_15 zc_i_0 ?_
    refine sm_istore (pc := 16) (n := 5) dX7_placings_16 ?_
    exact sm_loop (fun r18 hr18 => slX7_placings_18 n self hself P r18 hr18) _
  · skip
    refine sm_iconst (pc := 6) dX7_placings_6 zc_i_1 ?_
    exact sm_ireturn (pc := 7) dX7_placings_7 rfl
noncomputable def f_X7_placings {d : Nat} : List zV → zH d → zP d → Bool := zrec 6 b_X7_placings 8
theorem m_X7_placings {d : Nat} : zMet (d := d) X_X7_placings yX7_placings 9 f_X7_placings := zmet_rec (X := X_X7_placings) (fr := 1) (by decide) rfl rfl (fun n f hf _ P => s_X7_placings n f hf P) 8

abbrev X_X7_makeMarks : zM := (RX7, cX7_makeMarks, 4, none, "makeMarks")
noncomputable def lX7_makeMarks_28 {d : Nat} (P : zP d) (r2 : zK d) (r28 : zK d) : zK d := (xild 3 (xald 0 (xgfI 23 1 (xcmp tge (xinc 1 1 r2) (xald 0 (xgfR 23 11 (xild 1 (xaal (xild 3 (xald 0 (xgfR 23 3 (xild 3 (xaal (xgfR 20 2 (xpI 0 (xald 2 (xcS 3 0 0 f_X7_placings (xast1 0 (fun v => v) (xinc 3 1 r28)))))))))))))))))))
set_option maxRecDepth 100000 in
set_option maxHeartbeats 4000000 in
theorem slX7_makeMarks_28 {d : Nat} [zGh] (P : zP d) (r2 : zK d) (r28 : zK d) (hr2 : zSim X_X7_makeMarks 10 P 2 r2) (hr28 : zSim X_X7_makeMarks 10 P 28 r28) : zSim X_X7_makeMarks 10 P 28 (lX7_makeMarks_28 P r2 r28) := by
  unfold lX7_makeMarks_28
  refine sm_iload_n (pc := 28) (n := 3) dX7_makeMarks_28 rfl ?_
  refine sm_aload_n (pc := 29) (n := 0) dX7_makeMarks_29 rfl ?_
  refine gf_X7_19 (pc := 30) rfl dX7_makeMarks_30 ?_
  refine sm_icmp_ge (pc := 33) (tgt := 64) dX7_makeMarks_33 (by decide) ?_ ?_
  · skip
    refine sm_iinc (pc := 64) (n := 1) dX7_makeMarks_64 zc_i_1 ?_
    refine sm_goto (pc := 67) (tgt := 2) dX7_makeMarks_67 (by decide) ?_
    exact hr2
  · skip
    refine sm_aload_n (pc := 36) (n := 0) dX7_makeMarks_36 rfl ?_
    refine gf_X7_61 (pc := 37) rfl dX7_makeMarks_37 ?_
    refine sm_iload_n (pc := 40) (n := 1) dX7_makeMarks_40 rfl ?_
    refine sm_aaload (pc := 41) dX7_makeMarks_41 ?_
    refine sm_iload_n (pc := 42) (n := 3) dX7_makeMarks_42 rfl ?_
    refine sm_aload_n (pc := 43) (n := 0) dX7_makeMarks_43 rfl ?_
    refine gf_X7_24 (pc := 44) rfl dX7_makeMarks_44 ?_
    refine sm_iload_n (pc := 47) (n := 3) dX7_makeMarks_47 rfl ?_
    refine sm_aaload (pc := 48) dX7_makeMarks_48 ?_
    refine gf_X7_98 (pc := 49) rfl dX7_makeMarks_49 ?_
    refine sm_iconst (pc := 52) dX7_makeMarks_52 zc_i_0 ?_
    refine sm_aload_n (pc := 53) (n := 2) dX7_makeMarks_53 rfl ?_
    refine sm_cS (pc := 54) (n := 3) (mc := 0) (ms := 0) m_X7_placings (cr_X7_129 (X := X_X7_makeMarks) (fr := 10) (frc := 9) (pc := 54) (mc := 0) (ms := 0) rfl (by decide) dX7_makeMarks_54) ?_
    refine sm_iastore (pc := 57) dX7_makeMarks_57 ?_
    refine sm_iinc (pc := 58) (n := 3) dX7_makeMarks_58 zc_i_1 ?_
    refine sm_goto (pc := 61) (tgt := 28) dX7_makeMarks_61 (by decide) ?_
    exact hr28
noncomputable def lX7_makeMarks_2 {d : Nat} (P : zP d) (r2 : zK d) : zK d := (xild 1 (xald 0 (xgfI 23 1 (xcmp tge (xvret P) (xald 0 (xgfR 23 3 (xild 1 (xaal (xgfR 20 2 (xcln (xcast (xast 2 (xpI 0 (xist 3 (xloop (fun r28 => (lX7_makeMarks_28 P r2 r28)) 100000)))))))))))))))
set_option maxRecDepth 100000 in
set_option maxHeartbeats 4000000 in
theorem slX7_makeMarks_2 {d : Nat} [zGh] (P : zP d) (r2 : zK d) (hr2 : zSim X_X7_makeMarks 10 P 2 r2) : zSim X_X7_makeMarks 10 P 2 (lX7_makeMarks_2 P r2) := by
  unfold lX7_makeMarks_2
  refine sm_iload_n (pc := 2) (n := 1) dX7_makeMarks_2 rfl ?_
  refine sm_aload_n (pc := 3) (n := 0) dX7_makeMarks_3 rfl ?_
  refine gf_X7_19 (pc := 4) rfl dX7_makeMarks_4 ?_
  refine sm_icmp_ge (pc := 7) (tgt := 70) dX7_makeMarks_7 (by decide) ?_ ?_
  · skip
    exact sm_vreturn (pc := 70) dX7_makeMarks_70 rfl
  · skip
    refine sm_aload_n (pc := 10) (n := 0) dX7_makeMarks_10 rfl ?_
    refine gf_X7_24 (pc := 11) rfl dX7_makeMarks_11 ?_
    refine sm_iload_n (pc := 14) (n := 1) dX7_makeMarks_14 rfl ?_
    refine sm_aaload (pc := 15) dX7_makeMarks_15 ?_
    refine gf_X7_98 (pc := 16) rfl dX7_makeMarks_16 ?_
    refine sm_clone (pc := 19) wd_221 wd_69 wd_70 wd_71 wd_72 (by decide) dX7_makeMarks_19 ?_
    refine sm_castI (pc := 22) wd_222 dX7_makeMarks_22 ?_
    refine sm_astore_n (pc := 25) (n := 2) dX7_makeMarks_25 rfl ?_
    refine sm_iconst (pc := 26) dX7_makeMarks_26 zc_i_0 ?_
    refine sm_istore_n (pc := 27) (n := 3) dX7_makeMarks_27 rfl ?_
    exact sm_loop (fun r28 hr28 => slX7_makeMarks_28 P r2 r28 hr2 hr28) _
noncomputable def b_X7_makeMarks {d : Nat} (P : zP d) : zK d := (xpI 0 (xist 1 (xloop (fun r2 => (lX7_makeMarks_2 P r2)) 100000)))
set_option maxRecDepth 100000 in
set_option maxHeartbeats 4000000 in
theorem s_X7_makeMarks {d : Nat} [zGh] (P : zP d) : zSim X_X7_makeMarks 10 P 0 (b_X7_makeMarks P) := by
  unfold b_X7_makeMarks
  refine sm_iconst (pc := 0) dX7_makeMarks_0 zc_i_0 ?_
  refine sm_istore_n (pc := 1) (n := 1) dX7_makeMarks_1 rfl ?_
  exact sm_loop (fun r2 hr2 => slX7_makeMarks_2 P r2 hr2) _
noncomputable def f_X7_makeMarks {d : Nat} : List zV → zH d → zP d → Bool := zfn 4 b_X7_makeMarks
theorem m_X7_makeMarks {d : Nat} : zMet (d := d) X_X7_makeMarks yX7_makeMarks 10 f_X7_makeMarks := zmet_mk (X := X_X7_makeMarks) (by decide) rfl rfl s_X7_makeMarks

abbrev X_X7_timesIn : zM := (RX7, cX7_timesIn, 5, (some .int), "timesIn")
noncomputable def bX7_timesIn_57 {d : Nat} (P : zP d) : zK d := (xiret P)
set_option maxRecDepth 100000 in
set_option maxHeartbeats 4000000 in
theorem sbX7_timesIn_57 {d : Nat} [zGh] (P : zP d) : zSim X_X7_timesIn 1 P 57 (bX7_timesIn_57 P) := by
  unfold bX7_timesIn_57
  exact sm_ireturn (pc := 57) dX7_timesIn_57 rfl
noncomputable def lX7_timesIn_5 {d : Nat} (P : zP d) (r5 : zK d) : zK d := (xild 4 (xald 0 (xgfI 23 1 (xcmp tge (xald 0 (xgfI 23 2 (xjoin (bX7_timesIn_57 P) (fun j57 => (xif0 t0le (xpI 0 j57) (xild 3 (xald 0 (xgfI 23 2 (xbinN zdiv j57))))))))) (xild 3 (xald 0 (xgfR 23 5 (xild 4 (xald1 0 (xald 1 (xild 4 (xald1 0 (xbin zmul (xald 2 (xild 4 (xald1 0 (xbin zmul (xbin zadd (xist 3 (xinc 4 1 r5))))))))))))))))))))
set_option maxRecDepth 100000 in
set_option maxHeartbeats 4000000 in
theorem slX7_timesIn_5 {d : Nat} [zGh] (P : zP d) (r5 : zK d) (hr5 : zSim X_X7_timesIn 1 P 5 r5) : zSim X_X7_timesIn 1 P 5 (lX7_timesIn_5 P r5) := by
  unfold lX7_timesIn_5
  refine sm_iload (pc := 5) (n := 4) dX7_timesIn_5 ?_
  refine sm_aload_n (pc := 7) (n := 0) dX7_timesIn_7 rfl ?_
  refine gf_X7_19 (pc := 8) rfl dX7_timesIn_8 ?_
  refine sm_icmp_ge (pc := 11) (tgt := 40) dX7_timesIn_11 (by decide) ?_ ?_
  · skip
    refine sm_aload_n (pc := 40) (n := 0) dX7_timesIn_40 rfl ?_
    refine gf_X7_35 (pc := 41) rfl dX7_timesIn_41 ?_
    refine sm_join (pc := 44) (pc' := 57) (sbX7_timesIn_57 P) (fun j57 hj57 => ?_)
    refine sm_if_le (pc := 44) (tgt := 56) dX7_timesIn_44 (by decide) ?_ ?_
    · skip
      refine sm_iconst (pc := 56) dX7_timesIn_56 zc_i_0 ?_
      exact hj57
    · skip
      refine sm_iload_n (pc := 47) (n := 3) dX7_timesIn_47 rfl ?_
      refine sm_aload_n (pc := 48) (n := 0) dX7_timesIn_48 rfl ?_
      refine gf_X7_35 (pc := 49) rfl dX7_timesIn_49 ?_
      refine sm_idiv (pc := 52) dX7_timesIn_52 ?_
      refine sm_goto (pc := 53) (tgt := 57) dX7_timesIn_53 (by decide) ?_
      exact hj57
  · skip
    refine sm_iload_n (pc := 14) (n := 3) dX7_timesIn_14 rfl ?_
    refine sm_aload_n (pc := 15) (n := 0) dX7_timesIn_15 rfl ?_
    refine gf_X7_41 (pc := 16) rfl dX7_timesIn_16 ?_
    refine sm_iload (pc := 19) (n := 4) dX7_timesIn_19 ?_
    refine sm_iaload (pc := 21) dX7_timesIn_21 ?_
    refine sm_aload_n (pc := 22) (n := 1) dX7_timesIn_22 rfl ?_
    refine sm_iload (pc := 23) (n := 4) dX7_timesIn_23 ?_
    refine sm_iaload (pc := 25) dX7_timesIn_25 ?_
    refine sm_imul (pc := 26) dX7_timesIn_26 ?_
    refine sm_aload_n (pc := 27) (n := 2) dX7_timesIn_27 rfl ?_
    refine sm_iload (pc := 28) (n := 4) dX7_timesIn_28 ?_
    refine sm_iaload (pc := 30) dX7_timesIn_30 ?_
    refine sm_imul (pc := 31) dX7_timesIn_31 ?_
    refine sm_iadd (pc := 32) dX7_timesIn_32 ?_
    refine sm_istore_n (pc := 33) (n := 3) dX7_timesIn_33 rfl ?_
    refine sm_iinc (pc := 34) (n := 4) dX7_timesIn_34 zc_i_1 ?_
    refine sm_goto (pc := 37) (tgt := 5) dX7_timesIn_37 (by decide) ?_
    exact hr5
noncomputable def b_X7_timesIn {d : Nat} (P : zP d) : zK d := (xpI 0 (xist 3 (xpI 0 (xist 4 (xloop (fun r5 => (lX7_timesIn_5 P r5)) 100000)))))
set_option maxRecDepth 100000 in
set_option maxHeartbeats 4000000 in
theorem s_X7_timesIn {d : Nat} [zGh] (P : zP d) : zSim X_X7_timesIn 1 P 0 (b_X7_timesIn P) := by
  unfold b_X7_timesIn
  refine sm_iconst (pc := 0) dX7_timesIn_0 zc_i_0 ?_
  refine sm_istore_n (pc := 1) (n := 3) dX7_timesIn_1 rfl ?_
  refine sm_iconst (pc := 2) dX7_timesIn_2 zc_i_0 ?_
  refine sm_istore (pc := 3) (n := 4) dX7_timesIn_3 ?_
  exact sm_loop (fun r5 hr5 => slX7_timesIn_5 P r5 hr5) _
noncomputable def f_X7_timesIn {d : Nat} : List zV → zH d → zP d → Bool := zfn 5 b_X7_timesIn
theorem m_X7_timesIn {d : Nat} : zMet (d := d) X_X7_timesIn yX7_timesIn 1 f_X7_timesIn := zmet_mk (X := X_X7_timesIn) (by decide) rfl rfl s_X7_timesIn

abbrev X_X7_makeCharacters : zM := (RX7, cX7_makeCharacters, 5, none, "makeCharacters")
noncomputable def lX7_makeCharacters_58 {d : Nat} (P : zP d) (r33 : zK d) (r58 : zK d) : zK d := (xild 4 (xald 0 (xgfI 23 1 (xcmp tge (xinc 2 1 r33) (xald 0 (xgfR 23 12 (xild 1 (xaal (xild 4 (xdup2 (xald1 0 (xild 3 (xald 0 (xgfR 23 12 (xild 2 (xaal (xild 4 (xald1 0 (xbin zmul (xbin zsub (xast1 0 (fun v => v) (xinc 4 1 r58))))))))))))))))))))))
set_option maxRecDepth 100000 in
set_option maxHeartbeats 4000000 in
theorem slX7_makeCharacters_58 {d : Nat} [zGh] (P : zP d) (r33 : zK d) (r58 : zK d) (hr33 : zSim X_X7_makeCharacters 2 P 33 r33) (hr58 : zSim X_X7_makeCharacters 2 P 58 r58) : zSim X_X7_makeCharacters 2 P 58 (lX7_makeCharacters_58 P r33 r58) := by
  unfold lX7_makeCharacters_58
  refine sm_iload (pc := 58) (n := 4) dX7_makeCharacters_58 ?_
  refine sm_aload_n (pc := 60) (n := 0) dX7_makeCharacters_60 rfl ?_
  refine gf_X7_19 (pc := 61) rfl dX7_makeCharacters_61 ?_
  refine sm_icmp_ge (pc := 64) (tgt := 96) dX7_makeCharacters_64 (by decide) ?_ ?_
  · skip
    refine sm_iinc (pc := 96) (n := 2) dX7_makeCharacters_96 zc_i_1 ?_
    refine sm_goto (pc := 99) (tgt := 33) dX7_makeCharacters_99 (by decide) ?_
    exact hr33
  · skip
    refine sm_aload_n (pc := 67) (n := 0) dX7_makeCharacters_67 rfl ?_
    refine gf_X7_64 (pc := 68) rfl dX7_makeCharacters_68 ?_
    refine sm_iload_n (pc := 71) (n := 1) dX7_makeCharacters_71 rfl ?_
    refine sm_aaload (pc := 72) dX7_makeCharacters_72 ?_
    refine sm_iload (pc := 73) (n := 4) dX7_makeCharacters_73 ?_
    refine sm_dup2 (pc := 75) dX7_makeCharacters_75 ?_
    refine sm_iaload (pc := 76) dX7_makeCharacters_76 ?_
    refine sm_iload_n (pc := 77) (n := 3) dX7_makeCharacters_77 rfl ?_
    refine sm_aload_n (pc := 78) (n := 0) dX7_makeCharacters_78 rfl ?_
    refine gf_X7_64 (pc := 79) rfl dX7_makeCharacters_79 ?_
    refine sm_iload_n (pc := 82) (n := 2) dX7_makeCharacters_82 rfl ?_
    refine sm_aaload (pc := 83) dX7_makeCharacters_83 ?_
    refine sm_iload (pc := 84) (n := 4) dX7_makeCharacters_84 ?_
    refine sm_iaload (pc := 86) dX7_makeCharacters_86 ?_
    refine sm_imul (pc := 87) dX7_makeCharacters_87 ?_
    refine sm_isub (pc := 88) dX7_makeCharacters_88 ?_
    refine sm_iastore (pc := 89) dX7_makeCharacters_89 ?_
    refine sm_iinc (pc := 90) (n := 4) dX7_makeCharacters_90 zc_i_1 ?_
    refine sm_goto (pc := 93) (tgt := 58) dX7_makeCharacters_93 (by decide) ?_
    exact hr58
noncomputable def lX7_makeCharacters_33 {d : Nat} (P : zP d) (r2 : zK d) (r33 : zK d) : zK d := (xild 2 (xild 1 (xcmp tge (xinc 1 1 r2) (xald 0 (xald 0 (xgfR 23 11 (xild 1 (xaal (xald 0 (xgfR 23 12 (xild 2 (xaal (xcV 23 3 0 0 f_X7_timesIn (xist 3 (xpI 0 (xist 4 (xloop (fun r58 => (lX7_makeCharacters_58 P r33 r58)) 100000)))))))))))))))))
set_option maxRecDepth 100000 in
set_option maxHeartbeats 4000000 in
theorem slX7_makeCharacters_33 {d : Nat} [zGh] (P : zP d) (r2 : zK d) (r33 : zK d) (hr2 : zSim X_X7_makeCharacters 2 P 2 r2) (hr33 : zSim X_X7_makeCharacters 2 P 33 r33) : zSim X_X7_makeCharacters 2 P 33 (lX7_makeCharacters_33 P r2 r33) := by
  unfold lX7_makeCharacters_33
  refine sm_iload_n (pc := 33) (n := 2) dX7_makeCharacters_33 rfl ?_
  refine sm_iload_n (pc := 34) (n := 1) dX7_makeCharacters_34 rfl ?_
  refine sm_icmp_ge (pc := 35) (tgt := 102) dX7_makeCharacters_35 (by decide) ?_ ?_
  · skip
    refine sm_iinc (pc := 102) (n := 1) dX7_makeCharacters_102 zc_i_1 ?_
    refine sm_goto (pc := 105) (tgt := 2) dX7_makeCharacters_105 (by decide) ?_
    exact hr2
  · skip
    refine sm_aload_n (pc := 38) (n := 0) dX7_makeCharacters_38 rfl ?_
    refine sm_aload_n (pc := 39) (n := 0) dX7_makeCharacters_39 rfl ?_
    refine gf_X7_61 (pc := 40) rfl dX7_makeCharacters_40 ?_
    refine sm_iload_n (pc := 43) (n := 1) dX7_makeCharacters_43 rfl ?_
    refine sm_aaload (pc := 44) dX7_makeCharacters_44 ?_
    refine sm_aload_n (pc := 45) (n := 0) dX7_makeCharacters_45 rfl ?_
    refine gf_X7_64 (pc := 46) rfl dX7_makeCharacters_46 ?_
    refine sm_iload_n (pc := 49) (n := 2) dX7_makeCharacters_49 rfl ?_
    refine sm_aaload (pc := 50) dX7_makeCharacters_50 ?_
    refine sm_cV (pc := 51) (ci := 7) (n := 3) (mc := 0) (ms := 0) rfl m_X7_timesIn (cr_X7_138 (X := X_X7_makeCharacters) (fr := 2) (frc := 1) (pc := 51) (mc := 0) (ms := 0) rfl (by decide) dX7_makeCharacters_51) ?_
    refine sm_istore_n (pc := 54) (n := 3) dX7_makeCharacters_54 rfl ?_
    refine sm_iconst (pc := 55) dX7_makeCharacters_55 zc_i_0 ?_
    refine sm_istore (pc := 56) (n := 4) dX7_makeCharacters_56 ?_
    exact sm_loop (fun r58 hr58 => slX7_makeCharacters_58 P r33 r58 hr33 hr58) _
noncomputable def lX7_makeCharacters_2 {d : Nat} (P : zP d) (r2 : zK d) : zK d := (xild 1 (xald 0 (xgfI 23 1 (xcmp tge (xvret P) (xald 0 (xgfR 23 11 (xild 1 (xaal (xpI 0 (xald 0 (xgfR 23 12 (xild 1 (xaal (xpI 0 (xald 0 (xgfI 23 1 (xcpy 0 40 (xpI 0 (xist 2 (xloop (fun r33 => (lX7_makeCharacters_33 P r2 r33)) 100000))))))))))))))))))))
set_option maxRecDepth 100000 in
set_option maxHeartbeats 4000000 in
theorem slX7_makeCharacters_2 {d : Nat} [zGh] (P : zP d) (r2 : zK d) (hr2 : zSim X_X7_makeCharacters 2 P 2 r2) : zSim X_X7_makeCharacters 2 P 2 (lX7_makeCharacters_2 P r2) := by
  unfold lX7_makeCharacters_2
  refine sm_iload_n (pc := 2) (n := 1) dX7_makeCharacters_2 rfl ?_
  refine sm_aload_n (pc := 3) (n := 0) dX7_makeCharacters_3 rfl ?_
  refine gf_X7_19 (pc := 4) rfl dX7_makeCharacters_4 ?_
  refine sm_icmp_ge (pc := 7) (tgt := 108) dX7_makeCharacters_7 (by decide) ?_ ?_
  · skip
    exact sm_vreturn (pc := 108) dX7_makeCharacters_108 rfl
  · skip
    refine sm_aload_n (pc := 10) (n := 0) dX7_makeCharacters_10 rfl ?_
    refine gf_X7_61 (pc := 11) rfl dX7_makeCharacters_11 ?_
    refine sm_iload_n (pc := 14) (n := 1) dX7_makeCharacters_14 rfl ?_
    refine sm_aaload (pc := 15) dX7_makeCharacters_15 ?_
    refine sm_iconst (pc := 16) dX7_makeCharacters_16 zc_i_0 ?_
    refine sm_aload_n (pc := 17) (n := 0) dX7_makeCharacters_17 rfl ?_
    refine gf_X7_64 (pc := 18) rfl dX7_makeCharacters_18 ?_
    refine sm_iload_n (pc := 21) (n := 1) dX7_makeCharacters_21 rfl ?_
    refine sm_aaload (pc := 22) dX7_makeCharacters_22 ?_
    refine sm_iconst (pc := 23) dX7_makeCharacters_23 zc_i_0 ?_
    refine sm_aload_n (pc := 24) (n := 0) dX7_makeCharacters_24 rfl ?_
    refine gf_X7_19 (pc := 25) rfl dX7_makeCharacters_25 ?_
    refine sm_copyI (pc := 28) wd_230 wd_80 wd_79 wd_7 (by decide) dX7_makeCharacters_28 ?_
    refine sm_iconst (pc := 31) dX7_makeCharacters_31 zc_i_0 ?_
    refine sm_istore_n (pc := 32) (n := 2) dX7_makeCharacters_32 rfl ?_
    exact sm_loop (fun r33 hr33 => slX7_makeCharacters_33 P r2 r33 hr2 hr33) _
noncomputable def b_X7_makeCharacters {d : Nat} (P : zP d) : zK d := (xpI 0 (xist 1 (xloop (fun r2 => (lX7_makeCharacters_2 P r2)) 100000)))
set_option maxRecDepth 100000 in
set_option maxHeartbeats 4000000 in
theorem s_X7_makeCharacters {d : Nat} [zGh] (P : zP d) : zSim X_X7_makeCharacters 2 P 0 (b_X7_makeCharacters P) := by
  unfold b_X7_makeCharacters
  refine sm_iconst (pc := 0) dX7_makeCharacters_0 zc_i_0 ?_
  refine sm_istore_n (pc := 1) (n := 1) dX7_makeCharacters_1 rfl ?_
  exact sm_loop (fun r2 hr2 => slX7_makeCharacters_2 P r2 hr2) _
noncomputable def f_X7_makeCharacters {d : Nat} : List zV → zH d → zP d → Bool := zfn 5 b_X7_makeCharacters
theorem m_X7_makeCharacters {d : Nat} : zMet (d := d) X_X7_makeCharacters yX7_makeCharacters 2 f_X7_makeCharacters := zmet_mk (X := X_X7_makeCharacters) (by decide) rfl rfl s_X7_makeCharacters

abbrev X_X7_countCodes : zM := (RX7, cX7_countCodes, 3, (some .int), "countCodes")
noncomputable def lX7_countCodes_4 {d : Nat} (P : zP d) (r4 : zK d) : zK d := (xild 2 (xald 0 (xgfI 23 1 (xcmp tge (xild 1 (xiret P)) (xild 1 (xald 0 (xgfR 23 3 (xild 2 (xaal (xcV 20 1 0 0 f_X4_codeCount (xmm zmax (xist 1 (xinc 2 1 r4)))))))))))))
set_option maxRecDepth 100000 in
set_option maxHeartbeats 4000000 in
theorem slX7_countCodes_4 {d : Nat} [zGh] (P : zP d) (r4 : zK d) (hr4 : zSim X_X7_countCodes 2 P 4 r4) : zSim X_X7_countCodes 2 P 4 (lX7_countCodes_4 P r4) := by
  unfold lX7_countCodes_4
  refine sm_iload_n (pc := 4) (n := 2) dX7_countCodes_4 rfl ?_
  refine sm_aload_n (pc := 5) (n := 0) dX7_countCodes_5 rfl ?_
  refine gf_X7_19 (pc := 6) rfl dX7_countCodes_6 ?_
  refine sm_icmp_ge (pc := 9) (tgt := 32) dX7_countCodes_9 (by decide) ?_ ?_
  · skip
    refine sm_iload_n (pc := 32) (n := 1) dX7_countCodes_32 rfl ?_
    exact sm_ireturn (pc := 33) dX7_countCodes_33 rfl
  · skip
    refine sm_iload_n (pc := 12) (n := 1) dX7_countCodes_12 rfl ?_
    refine sm_aload_n (pc := 13) (n := 0) dX7_countCodes_13 rfl ?_
    refine gf_X7_24 (pc := 14) rfl dX7_countCodes_14 ?_
    refine sm_iload_n (pc := 17) (n := 2) dX7_countCodes_17 rfl ?_
    refine sm_aaload (pc := 18) dX7_countCodes_18 ?_
    refine sm_cV (pc := 19) (ci := 4) (n := 1) (mc := 0) (ms := 0) rfl m_X4_codeCount (cr_X7_142 (X := X_X7_countCodes) (fr := 2) (frc := 1) (pc := 19) (mc := 0) (ms := 0) rfl (by decide) dX7_countCodes_19) ?_
    refine sm_mmax (pc := 22) wd_243 wd_104 wd_6 wd_105 (by decide) dX7_countCodes_22 ?_
    refine sm_istore_n (pc := 25) (n := 1) dX7_countCodes_25 rfl ?_
    refine sm_iinc (pc := 26) (n := 2) dX7_countCodes_26 zc_i_1 ?_
    refine sm_goto (pc := 29) (tgt := 4) dX7_countCodes_29 (by decide) ?_
    exact hr4
noncomputable def b_X7_countCodes {d : Nat} (P : zP d) : zK d := (xpI 1 (xist 1 (xpI 0 (xist 2 (xloop (fun r4 => (lX7_countCodes_4 P r4)) 100000)))))
set_option maxRecDepth 100000 in
set_option maxHeartbeats 4000000 in
theorem s_X7_countCodes {d : Nat} [zGh] (P : zP d) : zSim X_X7_countCodes 2 P 0 (b_X7_countCodes P) := by
  unfold b_X7_countCodes
  refine sm_iconst (pc := 0) dX7_countCodes_0 zc_i_1 ?_
  refine sm_istore_n (pc := 1) (n := 1) dX7_countCodes_1 rfl ?_
  refine sm_iconst (pc := 2) dX7_countCodes_2 zc_i_0 ?_
  refine sm_istore_n (pc := 3) (n := 2) dX7_countCodes_3 rfl ?_
  exact sm_loop (fun r4 hr4 => slX7_countCodes_4 P r4 hr4) _
noncomputable def f_X7_countCodes {d : Nat} : List zV → zH d → zP d → Bool := zfn 3 b_X7_countCodes
theorem m_X7_countCodes {d : Nat} : zMet (d := d) X_X7_countCodes yX7_countCodes 2 f_X7_countCodes := zmet_mk (X := X_X7_countCodes) (by decide) rfl rfl s_X7_countCodes

abbrev X_X7_init : zM := (RX7, cX7_init, 3, none, "<init>")
noncomputable def lX7_init_226 {d : Nat} (P : zP d) (r226 : zK d) : zK d := (xild 2 (xald 0 (xgfI 23 1 (xcmp tge (xvret P) (xald 0 (xgfR 23 3 (xild 2 (xaal (xald 0 (xgfR 23 10 (xald 0 (xgfI 23 1 (xpI 1 (xbin zsub (xaal (xald 0 (xgfR 23 13 (xcV 20 3 0 0 f_X4_makeForms (xinc 2 1 r226)))))))))))))))))))
set_option maxRecDepth 100000 in
set_option maxHeartbeats 4000000 in
theorem slX7_init_226 {d : Nat} [zGh] (P : zP d) (r226 : zK d) (hr226 : zSim X_X7_init 12 P 226 r226) : zSim X_X7_init 12 P 226 (lX7_init_226 P r226) := by
  unfold lX7_init_226
  refine sm_iload_n (pc := 226) (n := 2) dX7_init_226 rfl ?_
  refine sm_aload_n (pc := 227) (n := 0) dX7_init_227 rfl ?_
  refine gf_X7_19 (pc := 228) rfl dX7_init_228 ?_
  refine sm_icmp_ge (pc := 231) (tgt := 264) dX7_init_231 (by decide) ?_ ?_
  · skip
    exact sm_vreturn (pc := 264) dX7_init_264 rfl
  · skip
    refine sm_aload_n (pc := 234) (n := 0) dX7_init_234 rfl ?_
    refine gf_X7_24 (pc := 235) rfl dX7_init_235 ?_
    refine sm_iload_n (pc := 238) (n := 2) dX7_init_238 rfl ?_
    refine sm_aaload (pc := 239) dX7_init_239 ?_
    refine sm_aload_n (pc := 240) (n := 0) dX7_init_240 rfl ?_
    refine gf_X7_58 (pc := 241) rfl dX7_init_241 ?_
    refine sm_aload_n (pc := 244) (n := 0) dX7_init_244 rfl ?_
    refine gf_X7_19 (pc := 245) rfl dX7_init_245 ?_
    refine sm_iconst (pc := 248) dX7_init_248 zc_i_1 ?_
    refine sm_isub (pc := 249) dX7_init_249 ?_
    refine sm_aaload (pc := 250) dX7_init_250 ?_
    refine sm_aload_n (pc := 251) (n := 0) dX7_init_251 rfl ?_
    refine gf_X7_91 (pc := 252) rfl dX7_init_252 ?_
    refine sm_cV (pc := 255) (ci := 4) (n := 3) (mc := 0) (ms := 0) rfl m_X4_makeForms (cr_X7_94 (X := X_X7_init) (fr := 12) (frc := 3) (pc := 255) (mc := 0) (ms := 0) rfl (by decide) dX7_init_255) ?_
    refine sm_iinc (pc := 258) (n := 2) dX7_init_258 zc_i_1 ?_
    refine sm_goto (pc := 261) (tgt := 226) dX7_init_261 (by decide) ?_
    exact hr226
noncomputable def cX7_init_196 {d : Nat} (P : zP d) (r154 : zK d) : zK d := (xinc 2 1 r154)
set_option maxRecDepth 100000 in
set_option maxHeartbeats 4000000 in
theorem scX7_init_196 {d : Nat} [zGh] (P : zP d) (r154 : zK d) (hr154 : zSim X_X7_init 12 P 154 r154) : zSim X_X7_init 12 P 196 (cX7_init_196 P r154) := by
  unfold cX7_init_196
  refine sm_iinc (pc := 196) (n := 2) dX7_init_196 zc_i_1 ?_
  refine sm_goto (pc := 199) (tgt := 154) dX7_init_199 (by decide) ?_
  exact hr154
noncomputable def lX7_init_154 {d : Nat} (P : zP d) (r154 : zK d) : zK d := (xild 2 (xald 0 (xgfI 23 1 (xcmp tge (xald 0 (xcV 23 1 1 6 f_X7_makePowers (xald 0 (xcV 23 1 11 66 f_X7_makeMarks (xald 0 (xcV 23 1 0 0 f_X7_makeCharacters (xald 0 (xald 0 (xcV 23 1 0 0 f_X7_countCodes (xnwa 0 (xpfR 23 13 (xpI 0 (xist 2 (xloop (fun r226 => (lX7_init_226 P r226)) 100000)))))))))))))) (xald 0 (xild 2 (xcV 23 2 0 0 f_X7_describeClass (xald 0 (xgfR 23 4 (xild 2 (xald 0 (xald 0 (xgfR 23 3 (xild 2 (xaal (xgfR 20 3 (xald 0 (xgfR 23 3 (xild 2 (xaal (xgfR 20 3 (xlen (xcV 23 3 0 0 f_X7_numberOf (xast1 0 (fun v => v) (cX7_init_196 P r154)))))))))))))))))))))))))
set_option maxRecDepth 100000 in
set_option maxHeartbeats 4000000 in
theorem slX7_init_154 {d : Nat} [zGh] (P : zP d) (r154 : zK d) (hr154 : zSim X_X7_init 12 P 154 r154) : zSim X_X7_init 12 P 154 (lX7_init_154 P r154) := by
  unfold lX7_init_154
  refine sm_iload_n (pc := 154) (n := 2) dX7_init_154 rfl ?_
  refine sm_aload_n (pc := 155) (n := 0) dX7_init_155 rfl ?_
  refine gf_X7_19 (pc := 156) rfl dX7_init_156 ?_
  refine sm_icmp_ge (pc := 159) (tgt := 202) dX7_init_159 (by decide) ?_ ?_
  · skip
    refine sm_aload_n (pc := 202) (n := 0) dX7_init_202 rfl ?_
    refine sm_cV (pc := 203) (ci := 7) (n := 1) (mc := 1) (ms := 6) rfl m_X7_makePowers (cr_X7_78 (X := X_X7_init) (fr := 12) (frc := 3) (pc := 203) (mc := 1) (ms := 6) rfl (by decide) dX7_init_203) ?_
    refine sm_aload_n (pc := 206) (n := 0) dX7_init_206 rfl ?_
    refine sm_cV (pc := 207) (ci := 7) (n := 1) (mc := 11) (ms := 66) rfl m_X7_makeMarks (cr_X7_81 (X := X_X7_init) (fr := 12) (frc := 10) (pc := 207) (mc := 11) (ms := 66) rfl (by decide) dX7_init_207) ?_
    refine sm_aload_n (pc := 210) (n := 0) dX7_init_210 rfl ?_
    refine sm_cV (pc := 211) (ci := 7) (n := 1) (mc := 0) (ms := 0) rfl m_X7_makeCharacters (cr_X7_84 (X := X_X7_init) (fr := 12) (frc := 2) (pc := 211) (mc := 0) (ms := 0) rfl (by decide) dX7_init_211) ?_
    refine sm_aload_n (pc := 214) (n := 0) dX7_init_214 rfl ?_
    refine sm_aload_n (pc := 215) (n := 0) dX7_init_215 rfl ?_
    refine sm_cV (pc := 216) (ci := 7) (n := 1) (mc := 0) (ms := 0) rfl m_X7_countCodes (cr_X7_87 (X := X_X7_init) (fr := 12) (frc := 2) (pc := 216) (mc := 0) (ms := 0) rfl (by decide) dX7_init_216) ?_
    refine sm_newI (pc := 219) dX7_init_219 wd_46 ?_
    refine pf_X7_91 (pc := 221) rfl rfl dX7_init_221 ?_
    refine sm_iconst (pc := 224) dX7_init_224 zc_i_0 ?_
    refine sm_istore_n (pc := 225) (n := 2) dX7_init_225 rfl ?_
    exact sm_loop (fun r226 hr226 => slX7_init_226 P r226 hr226) _
  · skip
    refine sm_aload_n (pc := 162) (n := 0) dX7_init_162 rfl ?_
    refine sm_iload_n (pc := 163) (n := 2) dX7_init_163 rfl ?_
    refine sm_cV (pc := 164) (ci := 7) (n := 2) (mc := 0) (ms := 0) rfl m_X7_describeClass (cr_X7_67 (X := X_X7_init) (fr := 12) (frc := 2) (pc := 164) (mc := 0) (ms := 0) rfl (by decide) dX7_init_164) ?_
    refine sm_aload_n (pc := 167) (n := 0) dX7_init_167 rfl ?_
    refine gf_X7_38 (pc := 168) rfl dX7_init_168 ?_
    refine sm_iload_n (pc := 171) (n := 2) dX7_init_171 rfl ?_
    refine sm_aload_n (pc := 172) (n := 0) dX7_init_172 rfl ?_
    refine sm_aload_n (pc := 173) (n := 0) dX7_init_173 rfl ?_
    refine gf_X7_24 (pc := 174) rfl dX7_init_174 ?_
    refine sm_iload_n (pc := 177) (n := 2) dX7_init_177 rfl ?_
    refine sm_aaload (pc := 178) dX7_init_178 ?_
    refine gf_X7_71 (pc := 179) rfl dX7_init_179 ?_
    refine sm_aload_n (pc := 182) (n := 0) dX7_init_182 rfl ?_
    refine gf_X7_24 (pc := 183) rfl dX7_init_183 ?_
    refine sm_iload_n (pc := 186) (n := 2) dX7_init_186 rfl ?_
    refine sm_aaload (pc := 187) dX7_init_187 ?_
    refine gf_X7_71 (pc := 188) rfl dX7_init_188 ?_
    refine sm_arraylength (pc := 191) dX7_init_191 ?_
    refine sm_cV (pc := 192) (ci := 7) (n := 3) (mc := 0) (ms := 0) rfl m_X7_numberOf (cr_X7_74 (X := X_X7_init) (fr := 12) (frc := 1) (pc := 192) (mc := 0) (ms := 0) rfl (by decide) dX7_init_192) ?_
    refine sm_iastore (pc := 195) dX7_init_195 ?_
    exact scX7_init_196 P r154 hr154
noncomputable def cX7_init_152 {d : Nat} (P : zP d) : zK d := (xpI 0 (xist 2 (xloop (fun r154 => (lX7_init_154 P r154)) 100000)))
set_option maxRecDepth 100000 in
set_option maxHeartbeats 4000000 in
theorem scX7_init_152 {d : Nat} [zGh] (P : zP d) : zSim X_X7_init 12 P 152 (cX7_init_152 P) := by
  unfold cX7_init_152
  refine sm_iconst (pc := 152) dX7_init_152 zc_i_0 ?_
  refine sm_istore_n (pc := 153) (n := 2) dX7_init_153 rfl ?_
  exact sm_loop (fun r154 hr154 => slX7_init_154 P r154 hr154) _
noncomputable def cX7_init_98 {d : Nat} (P : zP d) : zK d := (xmnaD 3 0 (xpfR 23 9 (xald 0 (xald 0 (xgfI 23 1 (xild 1 (xpI 1 (xbin zadd (xmnaD 3 0 (xpfR 23 10 (xald 0 (xald 0 (xgfI 23 1 (xald 0 (xgfI 23 1 (xmnaD 3 0 (xpfR 23 11 (xald 0 (xald 0 (xgfI 23 1 (xald 0 (xgfI 23 1 (xmnaD 3 0 (xpfR 23 12 (cX7_init_152 P)))))))))))))))))))))))))
set_option maxRecDepth 100000 in
set_option maxHeartbeats 4000000 in
theorem scX7_init_98 {d : Nat} [zGh] (P : zP d) : zSim X_X7_init 12 P 98 (cX7_init_98 P) := by
  unfold cX7_init_98
  refine sm_mnaDI (pc := 98) wd_194 wd_46 dX7_init_98 ?_
  refine pf_X7_55 (pc := 102) rfl rfl dX7_init_102 ?_
  refine sm_aload_n (pc := 105) (n := 0) dX7_init_105 rfl ?_
  refine sm_aload_n (pc := 106) (n := 0) dX7_init_106 rfl ?_
  refine gf_X7_19 (pc := 107) rfl dX7_init_107 ?_
  refine sm_iload_n (pc := 110) (n := 1) dX7_init_110 rfl ?_
  refine sm_iconst (pc := 111) dX7_init_111 zc_i_1 ?_
  refine sm_iadd (pc := 112) dX7_init_112 ?_
  refine sm_mnaDI (pc := 113) wd_194 wd_46 dX7_init_113 ?_
  refine pf_X7_58 (pc := 117) rfl rfl dX7_init_117 ?_
  refine sm_aload_n (pc := 120) (n := 0) dX7_init_120 rfl ?_
  refine sm_aload_n (pc := 121) (n := 0) dX7_init_121 rfl ?_
  refine gf_X7_19 (pc := 122) rfl dX7_init_122 ?_
  refine sm_aload_n (pc := 125) (n := 0) dX7_init_125 rfl ?_
  refine gf_X7_19 (pc := 126) rfl dX7_init_126 ?_
  refine sm_mnaDI (pc := 129) wd_194 wd_46 dX7_init_129 ?_
  refine pf_X7_61 (pc := 133) rfl rfl dX7_init_133 ?_
  refine sm_aload_n (pc := 136) (n := 0) dX7_init_136 rfl ?_
  refine sm_aload_n (pc := 137) (n := 0) dX7_init_137 rfl ?_
  refine gf_X7_19 (pc := 138) rfl dX7_init_138 ?_
  refine sm_aload_n (pc := 141) (n := 0) dX7_init_141 rfl ?_
  refine gf_X7_19 (pc := 142) rfl dX7_init_142 ?_
  refine sm_mnaDI (pc := 145) wd_194 wd_46 dX7_init_145 ?_
  refine pf_X7_64 (pc := 149) rfl rfl dX7_init_149 ?_
  exact scX7_init_152 P
noncomputable def cX7_init_51 {d : Nat} (P : zP d) : zK d := (xald 0 (xald 0 (xgfI 23 1 (xnwa 0 (xpfR 23 5 (xald 0 (xald 0 (xgfI 23 1 (xnwa 0 (xpfR 23 6 (xald 0 (xald 0 (xgfI 23 1 (xnwa 0 (xpfR 23 7 (xald 0 (xald 0 (xgfI 23 1 (xnwa 0 (xpfR 23 8 (xald 0 (xald 0 (xgfI 23 1 (xpI 7 (cX7_init_98 P)))))))))))))))))))))))))
set_option maxRecDepth 100000 in
set_option maxHeartbeats 4000000 in
theorem scX7_init_51 {d : Nat} [zGh] (P : zP d) : zSim X_X7_init 12 P 51 (cX7_init_51 P) := by
  unfold cX7_init_51
  refine sm_aload_n (pc := 51) (n := 0) dX7_init_51 rfl ?_
  refine sm_aload_n (pc := 52) (n := 0) dX7_init_52 rfl ?_
  refine gf_X7_19 (pc := 53) rfl dX7_init_53 ?_
  refine sm_newI (pc := 56) dX7_init_56 wd_46 ?_
  refine pf_X7_41 (pc := 58) rfl rfl dX7_init_58 ?_
  refine sm_aload_n (pc := 61) (n := 0) dX7_init_61 rfl ?_
  refine sm_aload_n (pc := 62) (n := 0) dX7_init_62 rfl ?_
  refine gf_X7_19 (pc := 63) rfl dX7_init_63 ?_
  refine sm_newI (pc := 66) dX7_init_66 wd_46 ?_
  refine pf_X7_44 (pc := 68) rfl rfl dX7_init_68 ?_
  refine sm_aload_n (pc := 71) (n := 0) dX7_init_71 rfl ?_
  refine sm_aload_n (pc := 72) (n := 0) dX7_init_72 rfl ?_
  refine gf_X7_19 (pc := 73) rfl dX7_init_73 ?_
  refine sm_newI (pc := 76) dX7_init_76 wd_46 ?_
  refine pf_X7_47 (pc := 78) rfl rfl dX7_init_78 ?_
  refine sm_aload_n (pc := 81) (n := 0) dX7_init_81 rfl ?_
  refine sm_aload_n (pc := 82) (n := 0) dX7_init_82 rfl ?_
  refine gf_X7_19 (pc := 83) rfl dX7_init_83 ?_
  refine sm_newI (pc := 86) dX7_init_86 wd_46 ?_
  refine pf_X7_50 (pc := 88) rfl rfl dX7_init_88 ?_
  refine sm_aload_n (pc := 91) (n := 0) dX7_init_91 rfl ?_
  refine sm_aload_n (pc := 92) (n := 0) dX7_init_92 rfl ?_
  refine gf_X7_19 (pc := 93) rfl dX7_init_93 ?_
  refine sm_bipush (pc := 96) dX7_init_96 zc_b_7 ?_
  exact scX7_init_98 P
noncomputable def b_X7_init {d : Nat} (P : zP d) : zK d := (xald 0 (xobj (xald 0 (xild 1 (xpfI 23 0 (xald 0 (xst ztb1 1 (xpfI 23 1 (xald 0 (xald 0 (xgfI 23 1 (xnwa 5 (xpfR 23 3 (xald 0 (xcV 23 1 720 67000 f_X7_makeShapes (xald 0 (xild 1 (xcS 1 0 0 f_X8_factorialOf (xpfI 23 2 (xald 0 (xald 0 (xgfI 23 1 (xnwa 0 (xpfR 23 4 (cX7_init_51 P)))))))))))))))))))))))))
set_option maxRecDepth 100000 in
set_option maxHeartbeats 4000000 in
theorem s_X7_init {d : Nat} [zGh] (P : zP d) : zSim X_X7_init 12 P 0 (b_X7_init P) := by
  unfold b_X7_init
  refine sm_aload_n (pc := 0) (n := 0) dX7_init_0 rfl ?_
  refine sm_objinit (pc := 1) wd_51 wd_21 wd_22 (by decide) dX7_init_1 ?_
  refine sm_aload_n (pc := 4) (n := 0) dX7_init_4 rfl ?_
  refine sm_iload_n (pc := 5) (n := 1) dX7_init_5 rfl ?_
  refine pf_X7_9 (pc := 6) rfl rfl dX7_init_6 ?_
  refine sm_aload_n (pc := 9) (n := 0) dX7_init_9 rfl ?_
  refine sm_st (pc := 10) (C := RX7) (nm := "PARTITIONS") (tb := ztb1) (n := 1) (l2 := 1) rfl (fun _ _ h => h.1) wd_52 dX7_init_10 (fun hx hb hl kk => lv_iload_n hx hb dX7_init_13 rfl hl kk) dX7_init_14 ?_
  refine pf_X7_19 (pc := 15) rfl rfl dX7_init_15 ?_
  refine sm_aload_n (pc := 18) (n := 0) dX7_init_18 rfl ?_
  refine sm_aload_n (pc := 19) (n := 0) dX7_init_19 rfl ?_
  refine gf_X7_19 (pc := 20) rfl dX7_init_20 ?_
  refine sm_anewarray (pc := 23) (kc := 5) (C := RX4) (by decide) (by decide) (fun _ => rfl) wd_54 (fun _ h => h.1) dX7_init_23 ?_
  refine pf_X7_24 (pc := 26) rfl rfl dX7_init_26 ?_
  refine sm_aload_n (pc := 29) (n := 0) dX7_init_29 rfl ?_
  refine sm_cV (pc := 30) (ci := 7) (n := 1) (mc := 720) (ms := 67000) rfl m_X7_makeShapes (cr_X7_28 (X := X_X7_init) (fr := 12) (frc := 11) (pc := 30) (mc := 720) (ms := 67000) rfl (by decide) dX7_init_30) ?_
  refine sm_aload_n (pc := 33) (n := 0) dX7_init_33 rfl ?_
  refine sm_iload_n (pc := 34) (n := 1) dX7_init_34 rfl ?_
  refine sm_cS (pc := 35) (n := 1) (mc := 0) (ms := 0) m_X8_factorialOf (cr_X7_31 (X := X_X7_init) (fr := 12) (frc := 1) (pc := 35) (mc := 0) (ms := 0) rfl (by decide) dX7_init_35) ?_
  refine pf_X7_35 (pc := 38) rfl rfl dX7_init_38 ?_
  refine sm_aload_n (pc := 41) (n := 0) dX7_init_41 rfl ?_
  refine sm_aload_n (pc := 42) (n := 0) dX7_init_42 rfl ?_
  refine gf_X7_19 (pc := 43) rfl dX7_init_43 ?_
  refine sm_newI (pc := 46) dX7_init_46 wd_46 ?_
  refine pf_X7_38 (pc := 48) rfl rfl dX7_init_48 ?_
  exact scX7_init_51 P
noncomputable def f_X7_init {d : Nat} : List zV → zH d → zP d → Bool := zfn 3 b_X7_init
theorem m_X7_init {d : Nat} : zMet (d := d) X_X7_init yX7_init 12 f_X7_init := zmet_mk (X := X_X7_init) (by decide) rfl rfl s_X7_init

abbrev X_X0_isSameCore : zM := (RX0, cX0_isSameCore, 3, (some .boolean), "isSameCore")
noncomputable def bX0_isSameCore_31 {d : Nat} (P : zP d) : zK d := (xpI 1 (xzret P))
set_option maxRecDepth 100000 in
set_option maxHeartbeats 4000000 in
theorem sbX0_isSameCore_31 {d : Nat} [zGh] (P : zP d) : zSim X_X0_isSameCore 1 P 31 (bX0_isSameCore_31 P) := by
  unfold bX0_isSameCore_31
  refine sm_iconst (pc := 31) dX0_isSameCore_31 zc_i_1 ?_
  exact sm_zreturn (pc := 32) dX0_isSameCore_32 rfl
noncomputable def lX0_isSameCore_2 {d : Nat} (P : zP d) (r2 : zK d) : zK d := (xild 2 (xald 0 (xlen (xjoin (bX0_isSameCore_31 P) (fun j31 => (xcmp tge j31 (xild 2 (xald 1 (xlen (xcmp tge j31 (xald 0 (xild 2 (xald1 0 (xald 1 (xild 2 (xald1 0 (xcmp Nat.beq (xinc 2 1 r2) (xpI 0 (xzret P)))))))))))))))))))
set_option maxRecDepth 100000 in
set_option maxHeartbeats 4000000 in
theorem slX0_isSameCore_2 {d : Nat} [zGh] (P : zP d) (r2 : zK d) (hr2 : zSim X_X0_isSameCore 1 P 2 r2) : zSim X_X0_isSameCore 1 P 2 (lX0_isSameCore_2 P r2) := by
  unfold lX0_isSameCore_2
  refine sm_iload_n (pc := 2) (n := 2) dX0_isSameCore_2 rfl ?_
  refine sm_aload_n (pc := 3) (n := 0) dX0_isSameCore_3 rfl ?_
  refine sm_arraylength (pc := 4) dX0_isSameCore_4 ?_
  refine sm_join (pc := 5) (pc' := 31) (sbX0_isSameCore_31 P) (fun j31 hj31 => ?_)
  refine sm_icmp_ge (pc := 5) (tgt := 31) dX0_isSameCore_5 (by decide) ?_ ?_
  · skip
    exact hj31
  · skip
    refine sm_iload_n (pc := 8) (n := 2) dX0_isSameCore_8 rfl ?_
    refine sm_aload_n (pc := 9) (n := 1) dX0_isSameCore_9 rfl ?_
    refine sm_arraylength (pc := 10) dX0_isSameCore_10 ?_
    refine sm_icmp_ge (pc := 11) (tgt := 31) dX0_isSameCore_11 (by decide) ?_ ?_
    · skip
      exact hj31
    · skip
      refine sm_aload_n (pc := 14) (n := 0) dX0_isSameCore_14 rfl ?_
      refine sm_iload_n (pc := 15) (n := 2) dX0_isSameCore_15 rfl ?_
      refine sm_iaload (pc := 16) dX0_isSameCore_16 ?_
      refine sm_aload_n (pc := 17) (n := 1) dX0_isSameCore_17 rfl ?_
      refine sm_iload_n (pc := 18) (n := 2) dX0_isSameCore_18 rfl ?_
      refine sm_iaload (pc := 19) dX0_isSameCore_19 ?_
      refine sm_icmp_eq (pc := 20) (tgt := 25) dX0_isSameCore_20 (by decide) ?_ ?_
      · skip
        refine sm_iinc (pc := 25) (n := 2) dX0_isSameCore_25 zc_i_1 ?_
        refine sm_goto (pc := 28) (tgt := 2) dX0_isSameCore_28 (by decide) ?_
        exact hr2
      · skip
        refine sm_iconst (pc := 23) dX0_isSameCore_23 zc_i_0 ?_
        exact sm_zreturn (pc := 24) dX0_isSameCore_24 rfl
noncomputable def b_X0_isSameCore {d : Nat} (P : zP d) : zK d := (xpI 0 (xist 2 (xloop (fun r2 => (lX0_isSameCore_2 P r2)) 100000)))
set_option maxRecDepth 100000 in
set_option maxHeartbeats 4000000 in
theorem s_X0_isSameCore {d : Nat} [zGh] (P : zP d) : zSim X_X0_isSameCore 1 P 0 (b_X0_isSameCore P) := by
  unfold b_X0_isSameCore
  refine sm_iconst (pc := 0) dX0_isSameCore_0 zc_i_0 ?_
  refine sm_istore_n (pc := 1) (n := 2) dX0_isSameCore_1 rfl ?_
  exact sm_loop (fun r2 hr2 => slX0_isSameCore_2 P r2 hr2) _
noncomputable def f_X0_isSameCore {d : Nat} : List zV → zH d → zP d → Bool := zfn 3 b_X0_isSameCore
theorem m_X0_isSameCore {d : Nat} : zMet (d := d) X_X0_isSameCore yX0_isSameCore 1 f_X0_isSameCore := zmet_mk (X := X_X0_isSameCore) (by decide) rfl rfl s_X0_isSameCore

abbrev X_X0_powerInFactorial : zM := (RX0, cX0_powerInFactorial, 5, (some .int), "powerInFactorial")
noncomputable def bX0_powerInFactorial_36 {d : Nat} (P : zP d) (r4 : zK d) : zK d := (xild 3 (xild 0 (xbin zadd (xist 3 r4))))
set_option maxRecDepth 100000 in
set_option maxHeartbeats 4000000 in
theorem sbX0_powerInFactorial_36 {d : Nat} [zGh] (P : zP d) (r4 : zK d) (hr4 : zSim X_X0_powerInFactorial 1 P 4 r4) : zSim X_X0_powerInFactorial 1 P 36 (bX0_powerInFactorial_36 P r4) := by
  unfold bX0_powerInFactorial_36
  refine sm_iload_n (pc := 36) (n := 3) dX0_powerInFactorial_36 rfl ?_
  refine sm_iload_n (pc := 37) (n := 0) dX0_powerInFactorial_37 rfl ?_
  refine sm_iadd (pc := 38) dX0_powerInFactorial_38 ?_
  refine sm_istore_n (pc := 39) (n := 3) dX0_powerInFactorial_39 rfl ?_
  refine sm_goto (pc := 40) (tgt := 4) dX0_powerInFactorial_40 (by decide) ?_
  exact hr4
noncomputable def lX0_powerInFactorial_12 {d : Nat} (P : zP d) (r12 : zK d) (r4 : zK d) : zK d := (xild 4 (xjoin (bX0_powerInFactorial_36 P r4) (fun j36 => (xif0 t0le j36 (xild 4 (xild 0 (xbinN zrem (xif0 t0eq (xild 4 (xild 0 (xbinN zdiv (xist 4 (xinc 2 1 r12))))) j36))))))))
set_option maxRecDepth 100000 in
set_option maxHeartbeats 4000000 in
theorem slX0_powerInFactorial_12 {d : Nat} [zGh] (P : zP d) (r12 : zK d) (r4 : zK d) (hr12 : zSim X_X0_powerInFactorial 1 P 12 r12) (hr4 : zSim X_X0_powerInFactorial 1 P 4 r4) : zSim X_X0_powerInFactorial 1 P 12 (lX0_powerInFactorial_12 P r12 r4) := by
  unfold lX0_powerInFactorial_12
  refine sm_iload (pc := 12) (n := 4) dX0_powerInFactorial_12 ?_
  refine sm_join (pc := 14) (pc' := 36) (sbX0_powerInFactorial_36 P r4 hr4) (fun j36 hj36 => ?_)
  refine sm_if_le (pc := 14) (tgt := 36) dX0_powerInFactorial_14 (by decide) ?_ ?_
  · skip
    exact hj36
  · skip
    refine sm_iload (pc := 17) (n := 4) dX0_powerInFactorial_17 ?_
    refine sm_iload_n (pc := 19) (n := 0) dX0_powerInFactorial_19 rfl ?_
    refine sm_irem (pc := 20) dX0_powerInFactorial_20 ?_
    refine sm_if_ne (pc := 21) (tgt := 36) dX0_powerInFactorial_21 (by decide) ?_ ?_
    · skip
      exact hj36
    · skip
      refine sm_iload (pc := 24) (n := 4) dX0_powerInFactorial_24 ?_
      refine sm_iload_n (pc := 26) (n := 0) dX0_powerInFactorial_26 rfl ?_
      refine sm_idiv (pc := 27) dX0_powerInFactorial_27 ?_
      refine sm_istore (pc := 28) (n := 4) dX0_powerInFactorial_28 ?_
      refine sm_iinc (pc := 30) (n := 2) dX0_powerInFactorial_30 zc_i_1 ?_
      refine sm_goto (pc := 33) (tgt := 12) dX0_powerInFactorial_33 (by decide) ?_
      exact hr12
noncomputable def lX0_powerInFactorial_4 {d : Nat} (P : zP d) (r4 : zK d) : zK d := (xild 3 (xild 1 (xcmp tle (xild 3 (xist 4 (xloop (fun r12 => (lX0_powerInFactorial_12 P r12 r4)) 100000))) (xild 2 (xiret P)))))
set_option maxRecDepth 100000 in
set_option maxHeartbeats 4000000 in
theorem slX0_powerInFactorial_4 {d : Nat} [zGh] (P : zP d) (r4 : zK d) (hr4 : zSim X_X0_powerInFactorial 1 P 4 r4) : zSim X_X0_powerInFactorial 1 P 4 (lX0_powerInFactorial_4 P r4) := by
  unfold lX0_powerInFactorial_4
  refine sm_iload_n (pc := 4) (n := 3) dX0_powerInFactorial_4 rfl ?_
  refine sm_iload_n (pc := 5) (n := 1) dX0_powerInFactorial_5 rfl ?_
  refine sm_icmp_gt (pc := 6) (tgt := 43) dX0_powerInFactorial_6 (by decide) ?_ ?_
  · skip
    refine sm_iload_n (pc := 43) (n := 2) dX0_powerInFactorial_43 rfl ?_
    exact sm_ireturn (pc := 44) dX0_powerInFactorial_44 rfl
  · skip
    refine sm_iload_n (pc := 9) (n := 3) dX0_powerInFactorial_9 rfl ?_
    refine sm_istore (pc := 10) (n := 4) dX0_powerInFactorial_10 ?_
    exact sm_loop (fun r12 hr12 => slX0_powerInFactorial_12 P r12 r4 hr12 hr4) _
noncomputable def b_X0_powerInFactorial {d : Nat} (P : zP d) : zK d := (xpI 0 (xist 2 (xild 0 (xist 3 (xloop (fun r4 => (lX0_powerInFactorial_4 P r4)) 100000)))))
set_option maxRecDepth 100000 in
set_option maxHeartbeats 4000000 in
theorem s_X0_powerInFactorial {d : Nat} [zGh] (P : zP d) : zSim X_X0_powerInFactorial 1 P 0 (b_X0_powerInFactorial P) := by
  unfold b_X0_powerInFactorial
  refine sm_iconst (pc := 0) dX0_powerInFactorial_0 zc_i_0 ?_
  refine sm_istore_n (pc := 1) (n := 2) dX0_powerInFactorial_1 rfl ?_
  refine sm_iload_n (pc := 2) (n := 0) dX0_powerInFactorial_2 rfl ?_
  refine sm_istore_n (pc := 3) (n := 3) dX0_powerInFactorial_3 rfl ?_
  exact sm_loop (fun r4 hr4 => slX0_powerInFactorial_4 P r4 hr4) _
noncomputable def f_X0_powerInFactorial {d : Nat} : List zV → zH d → zP d → Bool := zfn 5 b_X0_powerInFactorial
theorem m_X0_powerInFactorial {d : Nat} : zMet (d := d) X_X0_powerInFactorial yX0_powerInFactorial 1 f_X0_powerInFactorial := zmet_mk (X := X_X0_powerInFactorial) (by decide) rfl rfl s_X0_powerInFactorial

abbrev X_X0_readCore : zM := (RX0, cX0_readCore, 6, none, "readCore")
noncomputable def bX0_readCore_50 {d : Nat} (P : zP d) : zK d := (xvret P)
set_option maxRecDepth 100000 in
set_option maxHeartbeats 4000000 in
theorem sbX0_readCore_50 {d : Nat} [zGh] (P : zP d) : zSim X_X0_readCore 1 P 50 (bX0_readCore_50 P) := by
  unfold bX0_readCore_50
  exact sm_vreturn (pc := 50) dX0_readCore_50 rfl
noncomputable def bX0_readCore_44 {d : Nat} (P : zP d) (r11 : zK d) : zK d := (xinc 5 4294967295 r11)
set_option maxRecDepth 100000 in
set_option maxHeartbeats 4000000 in
theorem sbX0_readCore_44 {d : Nat} [zGh] (P : zP d) (r11 : zK d) (hr11 : zSim X_X0_readCore 1 P 11 r11) : zSim X_X0_readCore 1 P 44 (bX0_readCore_44 P r11) := by
  unfold bX0_readCore_44
  refine sm_iinc (pc := 44) (n := 5) dX0_readCore_44 zc_i_m1 ?_
  refine sm_goto (pc := 47) (tgt := 11) dX0_readCore_47 (by decide) ?_
  exact hr11
noncomputable def lX0_readCore_11 {d : Nat} (P : zP d) (r11 : zK d) : zK d := (xild 5 (xjoin (bX0_readCore_50 P) (fun j50 => (xif0 t0ge (xild 4 (xald 2 (xlen (xcmp tge j50 (xald 0 (xild 5 (xald1 1 (xjoin (bX0_readCore_44 P r11) (fun j44 => (xif0 t0eq j44 (xinc 3 4294967295 (xald 2 (xild 4 (xild 5 (xild 3 (xbin zsub (xast1 0 (fun v => v) (xinc 4 1 j44)))))))))))))))))) j50))))
set_option maxRecDepth 100000 in
set_option maxHeartbeats 4000000 in
theorem slX0_readCore_11 {d : Nat} [zGh] (P : zP d) (r11 : zK d) (hr11 : zSim X_X0_readCore 1 P 11 r11) : zSim X_X0_readCore 1 P 11 (lX0_readCore_11 P r11) := by
  unfold lX0_readCore_11
  refine sm_iload (pc := 11) (n := 5) dX0_readCore_11 ?_
  refine sm_join (pc := 13) (pc' := 50) (sbX0_readCore_50 P) (fun j50 hj50 => ?_)
  refine sm_if_lt (pc := 13) (tgt := 50) dX0_readCore_13 (by decide) ?_ ?_
  · skip
    exact hj50
  · skip
    refine sm_iload (pc := 16) (n := 4) dX0_readCore_16 ?_
    refine sm_aload_n (pc := 18) (n := 2) dX0_readCore_18 rfl ?_
    refine sm_arraylength (pc := 19) dX0_readCore_19 ?_
    refine sm_icmp_ge (pc := 20) (tgt := 50) dX0_readCore_20 (by decide) ?_ ?_
    · skip
      exact hj50
    · skip
      refine sm_aload_n (pc := 23) (n := 0) dX0_readCore_23 rfl ?_
      refine sm_iload (pc := 24) (n := 5) dX0_readCore_24 ?_
      refine sm_baload (pc := 26) dX0_readCore_26 ?_
      refine sm_join (pc := 27) (pc' := 44) (sbX0_readCore_44 P r11 hr11) (fun j44 hj44 => ?_)
      refine sm_if_eq (pc := 27) (tgt := 44) dX0_readCore_27 (by decide) ?_ ?_
      · skip
        exact hj44
      · skip
        refine sm_iinc (pc := 30) (n := 3) dX0_readCore_30 zc_i_m1 ?_
        refine sm_aload_n (pc := 33) (n := 2) dX0_readCore_33 rfl ?_
        refine sm_iload (pc := 34) (n := 4) dX0_readCore_34 ?_
        refine sm_iload (pc := 36) (n := 5) dX0_readCore_36 ?_
        refine sm_iload_n (pc := 38) (n := 3) dX0_readCore_38 rfl ?_
        refine sm_isub (pc := 39) dX0_readCore_39 ?_
        refine sm_iastore (pc := 40) dX0_readCore_40 ?_
        refine sm_iinc (pc := 41) (n := 4) dX0_readCore_41 zc_i_1 ?_
        exact hj44
noncomputable def b_X0_readCore {d : Nat} (P : zP d) : zK d := (xild 1 (xist 3 (xpI 0 (xist 4 (xald 0 (xlen (xpI 1 (xbin zsub (xist 5 (xloop (fun r11 => (lX0_readCore_11 P r11)) 100000))))))))))
set_option maxRecDepth 100000 in
set_option maxHeartbeats 4000000 in
theorem s_X0_readCore {d : Nat} [zGh] (P : zP d) : zSim X_X0_readCore 1 P 0 (b_X0_readCore P) := by
  unfold b_X0_readCore
  refine sm_iload_n (pc := 0) (n := 1) dX0_readCore_0 rfl ?_
  refine sm_istore_n (pc := 1) (n := 3) dX0_readCore_1 rfl ?_
  refine sm_iconst (pc := 2) dX0_readCore_2 zc_i_0 ?_
  refine sm_istore (pc := 3) (n := 4) dX0_readCore_3 ?_
  refine sm_aload_n (pc := 5) (n := 0) dX0_readCore_5 rfl ?_
  refine sm_arraylength (pc := 6) dX0_readCore_6 ?_
  refine sm_iconst (pc := 7) dX0_readCore_7 zc_i_1 ?_
  refine sm_isub (pc := 8) dX0_readCore_8 ?_
  refine sm_istore (pc := 9) (n := 5) dX0_readCore_9 ?_
  exact sm_loop (fun r11 hr11 => slX0_readCore_11 P r11 hr11) _
noncomputable def f_X0_readCore {d : Nat} : List zV → zH d → zP d → Bool := zfn 6 b_X0_readCore
theorem m_X0_readCore {d : Nat} : zMet (d := d) X_X0_readCore yX0_readCore 1 f_X0_readCore := zmet_mk (X := X_X0_readCore) (by decide) rfl rfl s_X0_readCore

abbrev X_X0_slide : zM := (RX0, cX0_slide, 6, (some .int), "slide")
noncomputable def bX0_slide_107 {d : Nat} (P : zP d) (r50 : zK d) : zK d := (xinc 4 1 r50)
set_option maxRecDepth 100000 in
set_option maxHeartbeats 4000000 in
theorem sbX0_slide_107 {d : Nat} [zGh] (P : zP d) (r50 : zK d) (hr50 : zSim X_X0_slide 1 P 50 r50) : zSim X_X0_slide 1 P 107 (bX0_slide_107 P r50) := by
  unfold bX0_slide_107
  refine sm_iinc (pc := 107) (n := 4) dX0_slide_107 zc_i_1 ?_
  refine sm_goto (pc := 110) (tgt := 50) dX0_slide_110 (by decide) ?_
  exact hr50
noncomputable def cX0_slide_97 {d : Nat} (P : zP d) (r61 : zK d) : zK d := (xild 1 (xbin zsub (xist 5 (xinc 3 1 r61))))
set_option maxRecDepth 100000 in
set_option maxHeartbeats 4000000 in
theorem scX0_slide_97 {d : Nat} [zGh] (P : zP d) (r61 : zK d) (hr61 : zSim X_X0_slide 1 P 61 r61) : zSim X_X0_slide 1 P 97 (cX0_slide_97 P r61) := by
  unfold cX0_slide_97
  refine sm_iload_n (pc := 97) (n := 1) dX0_slide_97 rfl ?_
  refine sm_isub (pc := 98) dX0_slide_98 ?_
  refine sm_istore (pc := 99) (n := 5) dX0_slide_99 ?_
  refine sm_iinc (pc := 101) (n := 3) dX0_slide_101 zc_i_1 ?_
  refine sm_goto (pc := 104) (tgt := 61) dX0_slide_104 (by decide) ?_
  exact hr61
noncomputable def lX0_slide_61 {d : Nat} (P : zP d) (r50 : zK d) (r61 : zK d) : zK d := (xild 5 (xild 1 (xjoin (bX0_slide_107 P r50) (fun j107 => (xcmp tge (xald 2 (xild 5 (xald1 1 (xif0 t0eq j107 (xald 2 (xild 5 (xild 1 (xbin zsub (xald1 1 (xif0 t0eq (xald 2 (xild 5 (xpI 0 (xast1 1 (fun v => zand v 1) (xald 2 (xild 5 (xild 1 (xbin zsub (xpI 1 (xast1 1 (fun v => zand v 1) (xild 5 (cX0_slide_97 P r61)))))))))))) j107)))))))))) j107)))))
set_option maxRecDepth 100000 in
set_option maxHeartbeats 4000000 in
theorem slX0_slide_61 {d : Nat} [zGh] (P : zP d) (r50 : zK d) (r61 : zK d) (hr50 : zSim X_X0_slide 1 P 50 r50) (hr61 : zSim X_X0_slide 1 P 61 r61) : zSim X_X0_slide 1 P 61 (lX0_slide_61 P r50 r61) := by
  unfold lX0_slide_61
  refine sm_iload (pc := 61) (n := 5) dX0_slide_61 ?_
  refine sm_iload_n (pc := 63) (n := 1) dX0_slide_63 rfl ?_
  refine sm_join (pc := 64) (pc' := 107) (sbX0_slide_107 P r50 hr50) (fun j107 hj107 => ?_)
  refine sm_icmp_lt (pc := 64) (tgt := 107) dX0_slide_64 (by decide) ?_ ?_
  · skip
    exact hj107
  · skip
    refine sm_aload_n (pc := 67) (n := 2) dX0_slide_67 rfl ?_
    refine sm_iload (pc := 68) (n := 5) dX0_slide_68 ?_
    refine sm_baload (pc := 70) dX0_slide_70 ?_
    refine sm_if_eq (pc := 71) (tgt := 107) dX0_slide_71 (by decide) ?_ ?_
    · skip
      exact hj107
    · skip
      refine sm_aload_n (pc := 74) (n := 2) dX0_slide_74 rfl ?_
      refine sm_iload (pc := 75) (n := 5) dX0_slide_75 ?_
      refine sm_iload_n (pc := 77) (n := 1) dX0_slide_77 rfl ?_
      refine sm_isub (pc := 78) dX0_slide_78 ?_
      refine sm_baload (pc := 79) dX0_slide_79 ?_
      refine sm_if_ne (pc := 80) (tgt := 107) dX0_slide_80 (by decide) ?_ ?_
      · skip
        exact hj107
      · skip
        refine sm_aload_n (pc := 83) (n := 2) dX0_slide_83 rfl ?_
        refine sm_iload (pc := 84) (n := 5) dX0_slide_84 ?_
        refine sm_iconst (pc := 86) dX0_slide_86 zc_i_0 ?_
        refine sm_bastore (pc := 87) dX0_slide_87 ?_
        refine sm_aload_n (pc := 88) (n := 2) dX0_slide_88 rfl ?_
        refine sm_iload (pc := 89) (n := 5) dX0_slide_89 ?_
        refine sm_iload_n (pc := 91) (n := 1) dX0_slide_91 rfl ?_
        refine sm_isub (pc := 92) dX0_slide_92 ?_
        refine sm_iconst (pc := 93) dX0_slide_93 zc_i_1 ?_
        refine sm_bastore (pc := 94) dX0_slide_94 ?_
        refine sm_iload (pc := 95) (n := 5) dX0_slide_95 ?_
        exact scX0_slide_97 P r61 hr61
noncomputable def lX0_slide_50 {d : Nat} (P : zP d) (r50 : zK d) : zK d := (xild 4 (xald 2 (xlen (xcmp tge (xild 3 (xiret P)) (xild 4 (xist 5 (xloop (fun r61 => (lX0_slide_61 P r50 r61)) 100000)))))))
set_option maxRecDepth 100000 in
set_option maxHeartbeats 4000000 in
theorem slX0_slide_50 {d : Nat} [zGh] (P : zP d) (r50 : zK d) (hr50 : zSim X_X0_slide 1 P 50 r50) : zSim X_X0_slide 1 P 50 (lX0_slide_50 P r50) := by
  unfold lX0_slide_50
  refine sm_iload (pc := 50) (n := 4) dX0_slide_50 ?_
  refine sm_aload_n (pc := 52) (n := 2) dX0_slide_52 rfl ?_
  refine sm_arraylength (pc := 53) dX0_slide_53 ?_
  refine sm_icmp_ge (pc := 54) (tgt := 113) dX0_slide_54 (by decide) ?_ ?_
  · skip
    refine sm_iload_n (pc := 113) (n := 3) dX0_slide_113 rfl ?_
    exact sm_ireturn (pc := 114) dX0_slide_114 rfl
  · skip
    refine sm_iload (pc := 57) (n := 4) dX0_slide_57 ?_
    refine sm_istore (pc := 59) (n := 5) dX0_slide_59 ?_
    exact sm_loop (fun r61 hr61 => slX0_slide_61 P r50 r61 hr50 hr61) _
noncomputable def lX0_slide_20 {d : Nat} (P : zP d) (r20 : zK d) : zK d := (xild 3 (xald 0 (xlen (xcmp tge (xpI 0 (xist 3 (xild 1 (xist 4 (xloop (fun r50 => (lX0_slide_50 P r50)) 100000))))) (xald 2 (xald 0 (xild 3 (xald1 0 (xald 0 (xlen (xbin zadd (xpI 1 (xbin zsub (xild 3 (xbin zsub (xpI 1 (xast1 1 (fun v => zand v 1) (xinc 3 1 r20))))))))))))))))))
set_option maxRecDepth 100000 in
set_option maxHeartbeats 4000000 in
theorem slX0_slide_20 {d : Nat} [zGh] (P : zP d) (r20 : zK d) (hr20 : zSim X_X0_slide 1 P 20 r20) : zSim X_X0_slide 1 P 20 (lX0_slide_20 P r20) := by
  unfold lX0_slide_20
  refine sm_iload_n (pc := 20) (n := 3) dX0_slide_20 rfl ?_
  refine sm_aload_n (pc := 21) (n := 0) dX0_slide_21 rfl ?_
  refine sm_arraylength (pc := 22) dX0_slide_22 ?_
  refine sm_icmp_ge (pc := 23) (tgt := 45) dX0_slide_23 (by decide) ?_ ?_
  · skip
    refine sm_iconst (pc := 45) dX0_slide_45 zc_i_0 ?_
    refine sm_istore_n (pc := 46) (n := 3) dX0_slide_46 rfl ?_
    refine sm_iload_n (pc := 47) (n := 1) dX0_slide_47 rfl ?_
    refine sm_istore (pc := 48) (n := 4) dX0_slide_48 ?_
    exact sm_loop (fun r50 hr50 => slX0_slide_50 P r50 hr50) _
  · skip
    refine sm_aload_n (pc := 26) (n := 2) dX0_slide_26 rfl ?_
    refine sm_aload_n (pc := 27) (n := 0) dX0_slide_27 rfl ?_
    refine sm_iload_n (pc := 28) (n := 3) dX0_slide_28 rfl ?_
    refine sm_iaload (pc := 29) dX0_slide_29 ?_
    refine sm_aload_n (pc := 30) (n := 0) dX0_slide_30 rfl ?_
    refine sm_arraylength (pc := 31) dX0_slide_31 ?_
    refine sm_iadd (pc := 32) dX0_slide_32 ?_
    refine sm_iconst (pc := 33) dX0_slide_33 zc_i_1 ?_
    refine sm_isub (pc := 34) dX0_slide_34 ?_
    refine sm_iload_n (pc := 35) (n := 3) dX0_slide_35 rfl ?_
    refine sm_isub (pc := 36) dX0_slide_36 ?_
    refine sm_iconst (pc := 37) dX0_slide_37 zc_i_1 ?_
    refine sm_bastore (pc := 38) dX0_slide_38 ?_
    refine sm_iinc (pc := 39) (n := 3) dX0_slide_39 zc_i_1 ?_
    refine sm_goto (pc := 42) (tgt := 20) dX0_slide_42 (by decide) ?_
    exact hr20
noncomputable def lX0_slide_2 {d : Nat} (P : zP d) (r2 : zK d) : zK d := (xild 3 (xald 2 (xlen (xcmp tge (xpI 0 (xist 3 (xloop (fun r20 => (lX0_slide_20 P r20)) 100000))) (xald 2 (xild 3 (xpI 0 (xast1 1 (fun v => zand v 1) (xinc 3 1 r2)))))))))
set_option maxRecDepth 100000 in
set_option maxHeartbeats 4000000 in
theorem slX0_slide_2 {d : Nat} [zGh] (P : zP d) (r2 : zK d) (hr2 : zSim X_X0_slide 1 P 2 r2) : zSim X_X0_slide 1 P 2 (lX0_slide_2 P r2) := by
  unfold lX0_slide_2
  refine sm_iload_n (pc := 2) (n := 3) dX0_slide_2 rfl ?_
  refine sm_aload_n (pc := 3) (n := 2) dX0_slide_3 rfl ?_
  refine sm_arraylength (pc := 4) dX0_slide_4 ?_
  refine sm_icmp_ge (pc := 5) (tgt := 18) dX0_slide_5 (by decide) ?_ ?_
  · skip
    refine sm_iconst (pc := 18) dX0_slide_18 zc_i_0 ?_
    refine sm_istore_n (pc := 19) (n := 3) dX0_slide_19 rfl ?_
    exact sm_loop (fun r20 hr20 => slX0_slide_20 P r20 hr20) _
  · skip
    refine sm_aload_n (pc := 8) (n := 2) dX0_slide_8 rfl ?_
    refine sm_iload_n (pc := 9) (n := 3) dX0_slide_9 rfl ?_
    refine sm_iconst (pc := 10) dX0_slide_10 zc_i_0 ?_
    refine sm_bastore (pc := 11) dX0_slide_11 ?_
    refine sm_iinc (pc := 12) (n := 3) dX0_slide_12 zc_i_1 ?_
    refine sm_goto (pc := 15) (tgt := 2) dX0_slide_15 (by decide) ?_
    exact hr2
noncomputable def b_X0_slide {d : Nat} (P : zP d) : zK d := (xpI 0 (xist 3 (xloop (fun r2 => (lX0_slide_2 P r2)) 100000)))
set_option maxRecDepth 100000 in
set_option maxHeartbeats 4000000 in
theorem s_X0_slide {d : Nat} [zGh] (P : zP d) : zSim X_X0_slide 1 P 0 (b_X0_slide P) := by
  unfold b_X0_slide
  refine sm_iconst (pc := 0) dX0_slide_0 zc_i_0 ?_
  refine sm_istore_n (pc := 1) (n := 3) dX0_slide_1 rfl ?_
  exact sm_loop (fun r2 hr2 => slX0_slide_2 P r2 hr2) _
noncomputable def f_X0_slide {d : Nat} : List zV → zH d → zP d → Bool := zfn 6 b_X0_slide
theorem m_X0_slide {d : Nat} : zMet (d := d) X_X0_slide yX0_slide 1 f_X0_slide := zmet_mk (X := X_X0_slide) (by decide) rfl rfl s_X0_slide

abbrev X_X0_join : zM := (RX0, cX0_join, 5, none, "join")
noncomputable def bX0_join_88 {d : Nat} (P : zP d) : zK d := (xald 0 (xgfR 16 2 (xild 1 (xild 4 (xast1 0 (fun v => v) (xald 0 (xgfR 16 5 (xild 4 (xdup2 (xald1 0 (xpI 1 (xbin zadd (xast1 0 (fun v => v) (xald 0 (xgfR 16 6 (xild 4 (xdup2 (xald1 0 (xild 3 (xcS 1 0 0 f_X8_bit (xbin zadd (xast1 0 (fun v => v) (xvret P)))))))))))))))))))))))
set_option maxRecDepth 100000 in
set_option maxHeartbeats 4000000 in
theorem sbX0_join_88 {d : Nat} [zGh] (P : zP d) : zSim X_X0_join 2 P 88 (bX0_join_88 P) := by
  unfold bX0_join_88
  refine sm_aload_n (pc := 88) (n := 0) dX0_join_88 rfl ?_
  refine gf_X0_29 (pc := 89) rfl dX0_join_89 ?_
  refine sm_iload_n (pc := 92) (n := 1) dX0_join_92 rfl ?_
  refine sm_iload (pc := 93) (n := 4) dX0_join_93 ?_
  refine sm_iastore (pc := 95) dX0_join_95 ?_
  refine sm_aload_n (pc := 96) (n := 0) dX0_join_96 rfl ?_
  refine gf_X0_35 (pc := 97) rfl dX0_join_97 ?_
  refine sm_iload (pc := 100) (n := 4) dX0_join_100 ?_
  refine sm_dup2 (pc := 102) dX0_join_102 ?_
  refine sm_iaload (pc := 103) dX0_join_103 ?_
  refine sm_iconst (pc := 104) dX0_join_104 zc_i_1 ?_
  refine sm_iadd (pc := 105) dX0_join_105 ?_
  refine sm_iastore (pc := 106) dX0_join_106 ?_
  refine sm_aload_n (pc := 107) (n := 0) dX0_join_107 rfl ?_
  refine gf_X0_38 (pc := 108) rfl dX0_join_108 ?_
  refine sm_iload (pc := 111) (n := 4) dX0_join_111 ?_
  refine sm_dup2 (pc := 113) dX0_join_113 ?_
  refine sm_iaload (pc := 114) dX0_join_114 ?_
  refine sm_iload_n (pc := 115) (n := 3) dX0_join_115 rfl ?_
  refine sm_cS (pc := 116) (n := 1) (mc := 0) (ms := 0) m_X8_bit (cr_X0_69 (X := X_X0_join) (fr := 2) (frc := 1) (pc := 116) (mc := 0) (ms := 0) rfl (by decide) dX0_join_116) ?_
  refine sm_iadd (pc := 119) dX0_join_119 ?_
  refine sm_iastore (pc := 120) dX0_join_120 ?_
  exact sm_vreturn (pc := 121) dX0_join_121 rfl
noncomputable def cX0_join_83 {d : Nat} (P : zP d) (j88 : zK d) : zK d := (xpI 1 (xbin zadd (xpfI 16 3 j88)))
set_option maxRecDepth 100000 in
set_option maxHeartbeats 4000000 in
theorem scX0_join_83 {d : Nat} [zGh] (P : zP d) (j88 : zK d) (hj88 : zSim X_X0_join 2 P 88 j88) : zSim X_X0_join 2 P 83 (cX0_join_83 P j88) := by
  unfold cX0_join_83
  refine sm_iconst (pc := 83) dX0_join_83 zc_i_1 ?_
  refine sm_iadd (pc := 84) dX0_join_84 ?_
  refine pf_X0_68 (pc := 85) rfl dX0_join_85 ?_
  exact hj88
noncomputable def bX0_join_42 {d : Nat} (P : zP d) : zK d := (xild 4 (xald 0 (xgfI 16 3 (xjoin (bX0_join_88 P) (fun j88 => (xcmp Nat.beq (xald 0 (xgfR 16 4 (xild 4 (xild 1 (xast1 0 (fun v => v) (xald 0 (xgfR 16 7 (xild 4 (xild 2 (xild 2 (xald 0 (xgfR 16 0 (xild 1 (xald1 0 (xbin zmul (xcS 2 0 0 f_X0_powerInFactorial (xast1 0 (fun v => v) (xald 0 (xdup (xgfI 16 3 (cX0_join_83 P j88))))))))))))))))))))) j88))))))
set_option maxRecDepth 100000 in
set_option maxHeartbeats 4000000 in
theorem sbX0_join_42 {d : Nat} [zGh] (P : zP d) : zSim X_X0_join 2 P 42 (bX0_join_42 P) := by
  unfold bX0_join_42
  refine sm_iload (pc := 42) (n := 4) dX0_join_42 ?_
  refine sm_aload_n (pc := 44) (n := 0) dX0_join_44 rfl ?_
  refine gf_X0_68 (pc := 45) rfl dX0_join_45 ?_
  refine sm_join (pc := 48) (pc' := 88) (sbX0_join_88 P) (fun j88 hj88 => ?_)
  refine sm_icmp_ne (pc := 48) (tgt := 88) dX0_join_48 (by decide) ?_ ?_
  · skip
    exact hj88
  · skip
    refine sm_aload_n (pc := 51) (n := 0) dX0_join_51 rfl ?_
    refine gf_X0_32 (pc := 52) rfl dX0_join_52 ?_
    refine sm_iload (pc := 55) (n := 4) dX0_join_55 ?_
    refine sm_iload_n (pc := 57) (n := 1) dX0_join_57 rfl ?_
    refine sm_iastore (pc := 58) dX0_join_58 ?_
    refine sm_aload_n (pc := 59) (n := 0) dX0_join_59 rfl ?_
    refine gf_X0_41 (pc := 60) rfl dX0_join_60 ?_
    refine sm_iload (pc := 63) (n := 4) dX0_join_63 ?_
    refine sm_iload_n (pc := 65) (n := 2) dX0_join_65 rfl ?_
    refine sm_iload_n (pc := 66) (n := 2) dX0_join_66 rfl ?_
    refine sm_aload_n (pc := 67) (n := 0) dX0_join_67 rfl ?_
    refine gf_X0_15 (pc := 68) rfl dX0_join_68 ?_
    refine sm_iload_n (pc := 71) (n := 1) dX0_join_71 rfl ?_
    refine sm_iaload (pc := 72) dX0_join_72 ?_
    refine sm_imul (pc := 73) dX0_join_73 ?_
    refine sm_cS (pc := 74) (n := 2) (mc := 0) (ms := 0) m_X0_powerInFactorial (cr_X0_77 (X := X_X0_join) (fr := 2) (frc := 1) (pc := 74) (mc := 0) (ms := 0) rfl (by decide) dX0_join_74) ?_
    refine sm_iastore (pc := 77) dX0_join_77 ?_
    refine sm_aload_n (pc := 78) (n := 0) dX0_join_78 rfl ?_
    refine sm_dup (pc := 79) dX0_join_79 ?_
    refine gf_X0_68 (pc := 80) rfl dX0_join_80 ?_
    exact scX0_join_83 P j88 hj88
noncomputable def lX0_join_3 {d : Nat} (P : zP d) (r3 : zK d) : zK d := (xild 4 (xald 0 (xgfI 16 3 (xjoin (bX0_join_42 P) (fun j42 => (xcmp tge j42 (xald 0 (xgfR 16 1 (xald 0 (xgfR 16 4 (xild 4 (xald1 0 (xaal (xald 0 (xgfR 16 1 (xild 1 (xaal (xcS 2 0 0 f_X0_isSameCore (xif0 t0eq (xinc 4 1 r3) j42)))))))))))))))))))
set_option maxRecDepth 100000 in
set_option maxHeartbeats 4000000 in
theorem slX0_join_3 {d : Nat} [zGh] (P : zP d) (r3 : zK d) (hr3 : zSim X_X0_join 2 P 3 r3) : zSim X_X0_join 2 P 3 (lX0_join_3 P r3) := by
  unfold lX0_join_3
  refine sm_iload (pc := 3) (n := 4) dX0_join_3 ?_
  refine sm_aload_n (pc := 5) (n := 0) dX0_join_5 rfl ?_
  refine gf_X0_68 (pc := 6) rfl dX0_join_6 ?_
  refine sm_join (pc := 9) (pc' := 42) (sbX0_join_42 P) (fun j42 hj42 => ?_)
  refine sm_icmp_ge (pc := 9) (tgt := 42) dX0_join_9 (by decide) ?_ ?_
  · skip
    exact hj42
  · skip
    refine sm_aload_n (pc := 12) (n := 0) dX0_join_12 rfl ?_
    refine gf_X0_26 (pc := 13) rfl dX0_join_13 ?_
    refine sm_aload_n (pc := 16) (n := 0) dX0_join_16 rfl ?_
    refine gf_X0_32 (pc := 17) rfl dX0_join_17 ?_
    refine sm_iload (pc := 20) (n := 4) dX0_join_20 ?_
    refine sm_iaload (pc := 22) dX0_join_22 ?_
    refine sm_aaload (pc := 23) dX0_join_23 ?_
    refine sm_aload_n (pc := 24) (n := 0) dX0_join_24 rfl ?_
    refine gf_X0_26 (pc := 25) rfl dX0_join_25 ?_
    refine sm_iload_n (pc := 28) (n := 1) dX0_join_28 rfl ?_
    refine sm_aaload (pc := 29) dX0_join_29 ?_
    refine sm_cS (pc := 30) (n := 2) (mc := 0) (ms := 0) m_X0_isSameCore (cr_X0_73 (X := X_X0_join) (fr := 2) (frc := 1) (pc := 30) (mc := 0) (ms := 0) rfl (by decide) dX0_join_30) ?_
    refine sm_if_ne (pc := 33) (tgt := 42) dX0_join_33 (by decide) ?_ ?_
    · skip
      exact hj42
    · skip
      refine sm_iinc (pc := 36) (n := 4) dX0_join_36 zc_i_1 ?_
      refine sm_goto (pc := 39) (tgt := 3) dX0_join_39 (by decide) ?_
      exact hr3
noncomputable def b_X0_join {d : Nat} (P : zP d) : zK d := (xpI 0 (xist 4 (xloop (fun r3 => (lX0_join_3 P r3)) 100000)))
set_option maxRecDepth 100000 in
set_option maxHeartbeats 4000000 in
theorem s_X0_join {d : Nat} [zGh] (P : zP d) : zSim X_X0_join 2 P 0 (b_X0_join P) := by
  unfold b_X0_join
  refine sm_iconst (pc := 0) dX0_join_0 zc_i_0 ?_
  refine sm_istore (pc := 1) (n := 4) dX0_join_1 ?_
  exact sm_loop (fun r3 hr3 => slX0_join_3 P r3 hr3) _
noncomputable def f_X0_join {d : Nat} : List zV → zH d → zP d → Bool := zfn 5 b_X0_join
theorem m_X0_join {d : Nat} : zMet (d := d) X_X0_join yX0_join 2 f_X0_join := zmet_mk (X := X_X0_join) (by decide) rfl rfl s_X0_join

abbrev X_X0_withoutDefect : zM := (RX0, cX0_withoutDefect, 3, (some .int), "withoutDefect")
noncomputable def bX0_withoutDefect_27 {d : Nat} (P : zP d) (r4 : zK d) : zK d := (xcS 1 0 0 f_X8_bit (xbin zadd (xist 1 (xinc 2 1 r4))))
set_option maxRecDepth 100000 in
set_option maxHeartbeats 4000000 in
theorem sbX0_withoutDefect_27 {d : Nat} [zGh] (P : zP d) (r4 : zK d) (hr4 : zSim X_X0_withoutDefect 2 P 4 r4) : zSim X_X0_withoutDefect 2 P 27 (bX0_withoutDefect_27 P r4) := by
  unfold bX0_withoutDefect_27
  refine sm_cS (pc := 27) (n := 1) (mc := 0) (ms := 0) m_X8_bit (cr_X0_69 (X := X_X0_withoutDefect) (fr := 2) (frc := 1) (pc := 27) (mc := 0) (ms := 0) rfl (by decide) dX0_withoutDefect_27) ?_
  refine sm_iadd (pc := 30) dX0_withoutDefect_30 ?_
  refine sm_istore_n (pc := 31) (n := 1) dX0_withoutDefect_31 rfl ?_
  refine sm_iinc (pc := 32) (n := 2) dX0_withoutDefect_32 zc_i_1 ?_
  refine sm_goto (pc := 35) (tgt := 4) dX0_withoutDefect_35 (by decide) ?_
  exact hr4
noncomputable def lX0_withoutDefect_4 {d : Nat} (P : zP d) (r4 : zK d) : zK d := (xild 2 (xald 0 (xgfI 16 3 (xcmp tge (xild 1 (xiret P)) (xild 1 (xald 0 (xgfR 16 7 (xild 2 (xald1 0 (xjoin (bX0_withoutDefect_27 P r4) (fun j27 => (xif0 t0eq (xpI 1 j27) (xpI 0 j27)))))))))))))
set_option maxRecDepth 100000 in
set_option maxHeartbeats 4000000 in
theorem slX0_withoutDefect_4 {d : Nat} [zGh] (P : zP d) (r4 : zK d) (hr4 : zSim X_X0_withoutDefect 2 P 4 r4) : zSim X_X0_withoutDefect 2 P 4 (lX0_withoutDefect_4 P r4) := by
  unfold lX0_withoutDefect_4
  refine sm_iload_n (pc := 4) (n := 2) dX0_withoutDefect_4 rfl ?_
  refine sm_aload_n (pc := 5) (n := 0) dX0_withoutDefect_5 rfl ?_
  refine gf_X0_68 (pc := 6) rfl dX0_withoutDefect_6 ?_
  refine sm_icmp_ge (pc := 9) (tgt := 38) dX0_withoutDefect_9 (by decide) ?_ ?_
  · skip
    refine sm_iload_n (pc := 38) (n := 1) dX0_withoutDefect_38 rfl ?_
    exact sm_ireturn (pc := 39) dX0_withoutDefect_39 rfl
  · skip
    refine sm_iload_n (pc := 12) (n := 1) dX0_withoutDefect_12 rfl ?_
    refine sm_aload_n (pc := 13) (n := 0) dX0_withoutDefect_13 rfl ?_
    refine gf_X0_41 (pc := 14) rfl dX0_withoutDefect_14 ?_
    refine sm_iload_n (pc := 17) (n := 2) dX0_withoutDefect_17 rfl ?_
    refine sm_iaload (pc := 18) dX0_withoutDefect_18 ?_
    refine sm_join (pc := 19) (pc' := 27) (sbX0_withoutDefect_27 P r4 hr4) (fun j27 hj27 => ?_)
    refine sm_if_ne (pc := 19) (tgt := 26) dX0_withoutDefect_19 (by decide) ?_ ?_
    · skip
      refine sm_iconst (pc := 26) dX0_withoutDefect_26 zc_i_0 ?_
      exact hj27
    · skip
      refine sm_iconst (pc := 22) dX0_withoutDefect_22 zc_i_1 ?_
      refine sm_goto (pc := 23) (tgt := 27) dX0_withoutDefect_23 (by decide) ?_
      exact hj27
noncomputable def b_X0_withoutDefect {d : Nat} (P : zP d) : zK d := (xpI 0 (xist 1 (xpI 0 (xist 2 (xloop (fun r4 => (lX0_withoutDefect_4 P r4)) 100000)))))
set_option maxRecDepth 100000 in
set_option maxHeartbeats 4000000 in
theorem s_X0_withoutDefect {d : Nat} [zGh] (P : zP d) : zSim X_X0_withoutDefect 2 P 0 (b_X0_withoutDefect P) := by
  unfold b_X0_withoutDefect
  refine sm_iconst (pc := 0) dX0_withoutDefect_0 zc_i_0 ?_
  refine sm_istore_n (pc := 1) (n := 1) dX0_withoutDefect_1 rfl ?_
  refine sm_iconst (pc := 2) dX0_withoutDefect_2 zc_i_0 ?_
  refine sm_istore_n (pc := 3) (n := 2) dX0_withoutDefect_3 rfl ?_
  exact sm_loop (fun r4 hr4 => slX0_withoutDefect_4 P r4 hr4) _
noncomputable def f_X0_withoutDefect {d : Nat} : List zV → zH d → zP d → Bool := zfn 3 b_X0_withoutDefect
theorem m_X0_withoutDefect {d : Nat} : zMet (d := d) X_X0_withoutDefect yX0_withoutDefect 2 f_X0_withoutDefect := zmet_mk (X := X_X0_withoutDefect) (by decide) rfl rfl s_X0_withoutDefect

abbrev X_X0_init : zM := (RX0, cX0_init, 7, none, "<init>")
noncomputable def bX0_init_150 {d : Nat} (P : zP d) (r81 : zK d) : zK d := (xcV 16 4 0 0 f_X0_join (xinc 6 1 r81))
set_option maxRecDepth 100000 in
set_option maxHeartbeats 4000000 in
theorem sbX0_init_150 {d : Nat} [zGh] (P : zP d) (r81 : zK d) (hr81 : zSim X_X0_init 3 P 81 r81) : zSim X_X0_init 3 P 150 (bX0_init_150 P r81) := by
  unfold bX0_init_150
  refine sm_cV (pc := 150) (ci := 0) (n := 4) (mc := 0) (ms := 0) rfl m_X0_join (cr_X0_64 (X := X_X0_init) (fr := 3) (frc := 2) (pc := 150) (mc := 0) (ms := 0) rfl (by decide) dX0_init_150) ?_
  refine sm_iinc (pc := 153) (n := 6) dX0_init_153 zc_i_1 ?_
  refine sm_goto (pc := 156) (tgt := 81) dX0_init_156 (by decide) ?_
  exact hr81
noncomputable def cX0_init_129 {d : Nat} (P : zP d) (r81 : zK d) : zK d := (xaal (xcS 3 0 0 f_X0_readCore (xald 0 (xild 6 (xild 2 (xald 3 (xild 6 (xald1 0 (xpI 4294967295 (xjoin (bX0_init_150 P r81) (fun j150 => (xcmp Nat.beq (xpI 0 j150) (xpI 1 j150)))))))))))))
set_option maxRecDepth 100000 in
set_option maxHeartbeats 4000000 in
theorem scX0_init_129 {d : Nat} [zGh] (P : zP d) (r81 : zK d) (hr81 : zSim X_X0_init 3 P 81 r81) : zSim X_X0_init 3 P 129 (cX0_init_129 P r81) := by
  unfold cX0_init_129
  refine sm_aaload (pc := 129) dX0_init_129 ?_
  refine sm_cS (pc := 130) (n := 3) (mc := 0) (ms := 0) m_X0_readCore (cr_X0_60 (X := X_X0_init) (fr := 3) (frc := 1) (pc := 130) (mc := 0) (ms := 0) rfl (by decide) dX0_init_130) ?_
  refine sm_aload_n (pc := 133) (n := 0) dX0_init_133 rfl ?_
  refine sm_iload (pc := 134) (n := 6) dX0_init_134 ?_
  refine sm_iload_n (pc := 136) (n := 2) dX0_init_136 rfl ?_
  refine sm_aload_n (pc := 137) (n := 3) dX0_init_137 rfl ?_
  refine sm_iload (pc := 138) (n := 6) dX0_init_138 ?_
  refine sm_iaload (pc := 140) dX0_init_140 ?_
  refine sm_iconst (pc := 141) dX0_init_141 zc_i_m1 ?_
  refine sm_join (pc := 142) (pc' := 150) (sbX0_init_150 P r81 hr81) (fun j150 hj150 => ?_)
  refine sm_icmp_eq (pc := 142) (tgt := 149) dX0_init_142 (by decide) ?_ ?_
  · skip
    refine sm_iconst (pc := 149) dX0_init_149 zc_i_0 ?_
    exact hj150
  · skip
    refine sm_iconst (pc := 145) dX0_init_145 zc_i_1 ?_
    refine sm_goto (pc := 146) (tgt := 150) dX0_init_146 (by decide) ?_
    exact hj150
noncomputable def lX0_init_81 {d : Nat} (P : zP d) (r81 : zK d) : zK d := (xild 6 (xild 4 (xcmp tge (xvret P) (xald 0 (xgfR 16 0 (xild 6 (xald 1 (xgfR 23 3 (xild 6 (xaal (xgfR 20 2 (xild 2 (xald 5 (xcS 3 0 0 f_X0_slide (xast1 0 (fun v => v) (xald 5 (xald 1 (xgfR 23 3 (xild 6 (xaal (xgfI 20 1 (xald 0 (xgfR 16 1 (xild 6 (cX0_init_129 P r81)))))))))))))))))))))))))
set_option maxRecDepth 100000 in
set_option maxHeartbeats 4000000 in
theorem slX0_init_81 {d : Nat} [zGh] (P : zP d) (r81 : zK d) (hr81 : zSim X_X0_init 3 P 81 r81) : zSim X_X0_init 3 P 81 (lX0_init_81 P r81) := by
  unfold lX0_init_81
  refine sm_iload (pc := 81) (n := 6) dX0_init_81 ?_
  refine sm_iload (pc := 83) (n := 4) dX0_init_83 ?_
  refine sm_icmp_ge (pc := 85) (tgt := 159) dX0_init_85 (by decide) ?_ ?_
  · skip
    exact sm_vreturn (pc := 159) dX0_init_159 rfl
  · skip
    refine sm_aload_n (pc := 88) (n := 0) dX0_init_88 rfl ?_
    refine gf_X0_15 (pc := 89) rfl dX0_init_89 ?_
    refine sm_iload (pc := 92) (n := 6) dX0_init_92 ?_
    refine sm_aload_n (pc := 94) (n := 1) dX0_init_94 rfl ?_
    refine gf_X0_44 (pc := 95) rfl dX0_init_95 ?_
    refine sm_iload (pc := 98) (n := 6) dX0_init_98 ?_
    refine sm_aaload (pc := 100) dX0_init_100 ?_
    refine gf_X0_48 (pc := 101) rfl dX0_init_101 ?_
    refine sm_iload_n (pc := 104) (n := 2) dX0_init_104 rfl ?_
    refine sm_aload (pc := 105) (n := 5) dX0_init_105 ?_
    refine sm_cS (pc := 107) (n := 3) (mc := 0) (ms := 0) m_X0_slide (cr_X0_53 (X := X_X0_init) (fr := 3) (frc := 1) (pc := 107) (mc := 0) (ms := 0) rfl (by decide) dX0_init_107) ?_
    refine sm_iastore (pc := 110) dX0_init_110 ?_
    refine sm_aload (pc := 111) (n := 5) dX0_init_111 ?_
    refine sm_aload_n (pc := 113) (n := 1) dX0_init_113 rfl ?_
    refine gf_X0_44 (pc := 114) rfl dX0_init_114 ?_
    refine sm_iload (pc := 117) (n := 6) dX0_init_117 ?_
    refine sm_aaload (pc := 119) dX0_init_119 ?_
    refine gf_X0_57 (pc := 120) rfl dX0_init_120 ?_
    refine sm_aload_n (pc := 123) (n := 0) dX0_init_123 rfl ?_
    refine gf_X0_26 (pc := 124) rfl dX0_init_124 ?_
    refine sm_iload (pc := 127) (n := 6) dX0_init_127 ?_
    exact scX0_init_129 P r81 hr81
noncomputable def cX0_init_49 {d : Nat} (P : zP d) : zK d := (xild 4 (xnwa 0 (xpfR 16 5 (xald 0 (xild 4 (xnwa 0 (xpfR 16 6 (xald 0 (xild 4 (xnwa 0 (xpfR 16 7 (xpI 12 (xnwa 1 (xast 5 (xpI 0 (xist 6 (xloop (fun r81 => (lX0_init_81 P r81)) 100000)))))))))))))))))
set_option maxRecDepth 100000 in
set_option maxHeartbeats 4000000 in
theorem scX0_init_49 {d : Nat} [zGh] (P : zP d) : zSim X_X0_init 3 P 49 (cX0_init_49 P) := by
  unfold cX0_init_49
  refine sm_iload (pc := 49) (n := 4) dX0_init_49 ?_
  refine sm_newI (pc := 51) dX0_init_51 wd_46 ?_
  refine pf_X0_35 (pc := 53) rfl rfl dX0_init_53 ?_
  refine sm_aload_n (pc := 56) (n := 0) dX0_init_56 rfl ?_
  refine sm_iload (pc := 57) (n := 4) dX0_init_57 ?_
  refine sm_newI (pc := 59) dX0_init_59 wd_46 ?_
  refine pf_X0_38 (pc := 61) rfl rfl dX0_init_61 ?_
  refine sm_aload_n (pc := 64) (n := 0) dX0_init_64 rfl ?_
  refine sm_iload (pc := 65) (n := 4) dX0_init_65 ?_
  refine sm_newI (pc := 67) dX0_init_67 wd_46 ?_
  refine pf_X0_41 (pc := 69) rfl rfl dX0_init_69 ?_
  refine sm_bipush (pc := 72) dX0_init_72 zc_b_12 ?_
  refine sm_newZ (pc := 74) dX0_init_74 wd_360 ?_
  refine sm_astore (pc := 76) (n := 5) dX0_init_76 ?_
  refine sm_iconst (pc := 78) dX0_init_78 zc_i_0 ?_
  refine sm_istore (pc := 79) (n := 6) dX0_init_79 ?_
  exact sm_loop (fun r81 hr81 => slX0_init_81 P r81 hr81) _
noncomputable def b_X0_init {d : Nat} (P : zP d) : zK d := (xald 0 (xobj (xald 1 (xgfI 23 1 (xist 4 (xald 0 (xild 4 (xnwa 0 (xpfR 16 0 (xald 0 (xild 4 (xald 1 (xgfI 23 0 (xmnaD 3 0 (xpfR 16 1 (xald 0 (xild 4 (xnwa 0 (xpfR 16 2 (xald 0 (xild 4 (xnwa 0 (xpfR 16 4 (xald 0 (cX0_init_49 P)))))))))))))))))))))))))
set_option maxRecDepth 100000 in
set_option maxHeartbeats 4000000 in
theorem s_X0_init {d : Nat} [zGh] (P : zP d) : zSim X_X0_init 3 P 0 (b_X0_init P) := by
  unfold b_X0_init
  refine sm_aload_n (pc := 0) (n := 0) dX0_init_0 rfl ?_
  refine sm_objinit (pc := 1) wd_425 wd_21 wd_22 (by decide) dX0_init_1 ?_
  refine sm_aload_n (pc := 4) (n := 1) dX0_init_4 rfl ?_
  refine gf_X0_9 (pc := 5) rfl dX0_init_5 ?_
  refine sm_istore (pc := 8) (n := 4) dX0_init_8 ?_
  refine sm_aload_n (pc := 10) (n := 0) dX0_init_10 rfl ?_
  refine sm_iload (pc := 11) (n := 4) dX0_init_11 ?_
  refine sm_newI (pc := 13) dX0_init_13 wd_46 ?_
  refine pf_X0_15 (pc := 15) rfl rfl dX0_init_15 ?_
  refine sm_aload_n (pc := 18) (n := 0) dX0_init_18 rfl ?_
  refine sm_iload (pc := 19) (n := 4) dX0_init_19 ?_
  refine sm_aload_n (pc := 21) (n := 1) dX0_init_21 rfl ?_
  refine gf_X0_21 (pc := 22) rfl dX0_init_22 ?_
  refine sm_mnaDI (pc := 25) wd_426 wd_46 dX0_init_25 ?_
  refine pf_X0_26 (pc := 29) rfl rfl dX0_init_29 ?_
  refine sm_aload_n (pc := 32) (n := 0) dX0_init_32 rfl ?_
  refine sm_iload (pc := 33) (n := 4) dX0_init_33 ?_
  refine sm_newI (pc := 35) dX0_init_35 wd_46 ?_
  refine pf_X0_29 (pc := 37) rfl rfl dX0_init_37 ?_
  refine sm_aload_n (pc := 40) (n := 0) dX0_init_40 rfl ?_
  refine sm_iload (pc := 41) (n := 4) dX0_init_41 ?_
  refine sm_newI (pc := 43) dX0_init_43 wd_46 ?_
  refine pf_X0_32 (pc := 45) rfl rfl dX0_init_45 ?_
  refine sm_aload_n (pc := 48) (n := 0) dX0_init_48 rfl ?_
  exact scX0_init_49 P
noncomputable def f_X0_init {d : Nat} : List zV → zH d → zP d → Bool := zfn 7 b_X0_init
theorem m_X0_init {d : Nat} : zMet (d := d) X_X0_init yX0_init 3 f_X0_init := zmet_mk (X := X_X0_init) (by decide) rfl rfl s_X0_init
end
section
/-! the class, by program -/
abbrev X_X5_isRegular : zM := (RX5, cX5_isRegular, 2, (some .boolean), "isRegular")
noncomputable def bX5_isRegular_15 {d : Nat} (P : zP d) : zK d := (xzret P)
set_option maxRecDepth 100000 in
set_option maxHeartbeats 4000000 in
theorem sbX5_isRegular_15 {d : Nat} [zGh] (P : zP d) : zSim X_X5_isRegular 1 P 15 (bX5_isRegular_15 P) := by
  unfold bX5_isRegular_15
  exact sm_zreturn (pc := 15) dX5_isRegular_15 rfl
noncomputable def b_X5_isRegular {d : Nat} (P : zP d) : zK d := (xald 0 (xgfR 21 2 (xild 1 (xald1 0 (xpI 4294967295 (xjoin (bX5_isRegular_15 P) (fun j15 => (xcmp Nat.beq (xpI 0 j15) (xpI 1 j15)))))))))
set_option maxRecDepth 100000 in
set_option maxHeartbeats 4000000 in
theorem s_X5_isRegular {d : Nat} [zGh] (P : zP d) : zSim X_X5_isRegular 1 P 0 (b_X5_isRegular P) := by
  unfold b_X5_isRegular
  refine sm_aload_n (pc := 0) (n := 0) dX5_isRegular_0 rfl ?_
  refine gf_X5_24 (pc := 1) rfl dX5_isRegular_1 ?_
  refine sm_iload_n (pc := 4) (n := 1) dX5_isRegular_4 rfl ?_
  refine sm_iaload (pc := 5) dX5_isRegular_5 ?_
  refine sm_iconst (pc := 6) dX5_isRegular_6 zc_i_m1 ?_
  refine sm_join (pc := 7) (pc' := 15) (sbX5_isRegular_15 P) (fun j15 hj15 => ?_)
  refine sm_icmp_eq (pc := 7) (tgt := 14) dX5_isRegular_7 (by decide) ?_ ?_
  · skip
    refine sm_iconst (pc := 14) dX5_isRegular_14 zc_i_0 ?_
    exact hj15
  · skip
    refine sm_iconst (pc := 10) dX5_isRegular_10 zc_i_1 ?_
    refine sm_goto (pc := 11) (tgt := 15) dX5_isRegular_11 (by decide) ?_
    exact hj15
noncomputable def f_X5_isRegular {d : Nat} : List zV → zH d → zP d → Bool := zfn 2 b_X5_isRegular
theorem m_X5_isRegular {d : Nat} : zMet (d := d) X_X5_isRegular yX5_isRegular 1 f_X5_isRegular := zmet_mk (X := X_X5_isRegular) (by decide) rfl rfl s_X5_isRegular

abbrev X_X5_markRegular : zM := (RX5, cX5_markRegular, 7, none, "markRegular")
noncomputable def bX5_markRegular_142 {d : Nat} (P : zP d) (r2 : zK d) : zK d := (xast1 0 (fun v => v) (xald 0 (xdup (xgfI 21 3 (xild 3 (xcS 1 0 0 f_X8_bit (xbin zadd (xpfI 21 3 (xinc 1 1 r2)))))))))
set_option maxRecDepth 100000 in
set_option maxHeartbeats 4000000 in
theorem sbX5_markRegular_142 {d : Nat} [zGh] (P : zP d) (r2 : zK d) (hr2 : zSim X_X5_markRegular 2 P 2 r2) : zSim X_X5_markRegular 2 P 142 (bX5_markRegular_142 P r2) := by
  unfold bX5_markRegular_142
  refine sm_iastore (pc := 142) dX5_markRegular_142 ?_
  refine sm_aload_n (pc := 143) (n := 0) dX5_markRegular_143 rfl ?_
  refine sm_dup (pc := 144) dX5_markRegular_144 ?_
  refine gf_X5_89 (pc := 145) rfl dX5_markRegular_145 ?_
  refine sm_iload_n (pc := 148) (n := 3) dX5_markRegular_148 rfl ?_
  refine sm_cS (pc := 149) (n := 1) (mc := 0) (ms := 0) m_X8_bit (cr_X5_92 (X := X_X5_markRegular) (fr := 2) (frc := 1) (pc := 149) (mc := 0) (ms := 0) rfl (by decide) dX5_markRegular_149) ?_
  refine sm_iadd (pc := 152) dX5_markRegular_152 ?_
  refine pf_X5_89 (pc := 153) rfl dX5_markRegular_153 ?_
  refine sm_iinc (pc := 156) (n := 1) dX5_markRegular_156 zc_i_1 ?_
  refine sm_goto (pc := 159) (tgt := 2) dX5_markRegular_159 (by decide) ?_
  exact hr2
noncomputable def bX5_markRegular_108 {d : Nat} (P : zP d) (r37 : zK d) : zK d := (xbin zand (xist 4 (xinc 6 1 r37)))
set_option maxRecDepth 100000 in
set_option maxHeartbeats 4000000 in
theorem sbX5_markRegular_108 {d : Nat} [zGh] (P : zP d) (r37 : zK d) (hr37 : zSim X_X5_markRegular 2 P 37 r37) : zSim X_X5_markRegular 2 P 108 (bX5_markRegular_108 P r37) := by
  unfold bX5_markRegular_108
  refine sm_iand (pc := 108) dX5_markRegular_108 ?_
  refine sm_istore (pc := 109) (n := 4) dX5_markRegular_109 ?_
  refine sm_iinc (pc := 111) (n := 6) dX5_markRegular_111 zc_i_1 ?_
  refine sm_goto (pc := 114) (tgt := 37) dX5_markRegular_114 (by decide) ?_
  exact hr37
noncomputable def bX5_markRegular_87 {d : Nat} (P : zP d) (r37 : zK d) : zK d := (xbin zand (xist 3 (xild 4 (xald 2 (xild 6 (xald1 0 (xald 0 (xgfI 21 1 (xbinN zrem (xjoin (bX5_markRegular_108 P r37) (fun j108 => (xif0 t0eq (xpI 0 j108) (xpI 1 j108)))))))))))))
set_option maxRecDepth 100000 in
set_option maxHeartbeats 4000000 in
theorem sbX5_markRegular_87 {d : Nat} [zGh] (P : zP d) (r37 : zK d) (hr37 : zSim X_X5_markRegular 2 P 37 r37) : zSim X_X5_markRegular 2 P 87 (bX5_markRegular_87 P r37) := by
  unfold bX5_markRegular_87
  refine sm_iand (pc := 87) dX5_markRegular_87 ?_
  refine sm_istore_n (pc := 88) (n := 3) dX5_markRegular_88 rfl ?_
  refine sm_iload (pc := 89) (n := 4) dX5_markRegular_89 ?_
  refine sm_aload_n (pc := 91) (n := 2) dX5_markRegular_91 rfl ?_
  refine sm_iload (pc := 92) (n := 6) dX5_markRegular_92 ?_
  refine sm_iaload (pc := 94) dX5_markRegular_94 ?_
  refine sm_aload_n (pc := 95) (n := 0) dX5_markRegular_95 rfl ?_
  refine gf_X5_15 (pc := 96) rfl dX5_markRegular_96 ?_
  refine sm_irem (pc := 99) dX5_markRegular_99 ?_
  refine sm_join (pc := 100) (pc' := 108) (sbX5_markRegular_108 P r37 hr37) (fun j108 hj108 => ?_)
  refine sm_if_eq (pc := 100) (tgt := 107) dX5_markRegular_100 (by decide) ?_ ?_
  · skip
    refine sm_iconst (pc := 107) dX5_markRegular_107 zc_i_0 ?_
    exact hj108
  · skip
    refine sm_iconst (pc := 103) dX5_markRegular_103 zc_i_1 ?_
    refine sm_goto (pc := 104) (tgt := 108) dX5_markRegular_104 (by decide) ?_
    exact hj108
noncomputable def bX5_markRegular_70 {d : Nat} (P : zP d) (r37 : zK d) : zK d := (xist 5 (xild 3 (xild 5 (xald 0 (xgfI 21 1 (xjoin (bX5_markRegular_87 P r37) (fun j87 => (xcmp tge (xpI 0 j87) (xpI 1 j87)))))))))
set_option maxRecDepth 100000 in
set_option maxHeartbeats 4000000 in
theorem sbX5_markRegular_70 {d : Nat} [zGh] (P : zP d) (r37 : zK d) (hr37 : zSim X_X5_markRegular 2 P 37 r37) : zSim X_X5_markRegular 2 P 70 (bX5_markRegular_70 P r37) := by
  unfold bX5_markRegular_70
  refine sm_istore (pc := 70) (n := 5) dX5_markRegular_70 ?_
  refine sm_iload_n (pc := 72) (n := 3) dX5_markRegular_72 rfl ?_
  refine sm_iload (pc := 73) (n := 5) dX5_markRegular_73 ?_
  refine sm_aload_n (pc := 75) (n := 0) dX5_markRegular_75 rfl ?_
  refine gf_X5_15 (pc := 76) rfl dX5_markRegular_76 ?_
  refine sm_join (pc := 79) (pc' := 87) (sbX5_markRegular_87 P r37 hr37) (fun j87 hj87 => ?_)
  refine sm_icmp_ge (pc := 79) (tgt := 86) dX5_markRegular_79 (by decide) ?_ ?_
  · skip
    refine sm_iconst (pc := 86) dX5_markRegular_86 zc_i_0 ?_
    exact hj87
  · skip
    refine sm_iconst (pc := 82) dX5_markRegular_82 zc_i_1 ?_
    refine sm_goto (pc := 83) (tgt := 87) dX5_markRegular_83 (by decide) ?_
    exact hj87
noncomputable def bX5_markRegular_69 {d : Nat} (P : zP d) (j70 : zK d) : zK d := (xpI 1 j70)
set_option maxRecDepth 100000 in
set_option maxHeartbeats 4000000 in
theorem sbX5_markRegular_69 {d : Nat} [zGh] (P : zP d) (j70 : zK d) (hj70 : zSim X_X5_markRegular 2 P 70 j70) : zSim X_X5_markRegular 2 P 69 (bX5_markRegular_69 P j70) := by
  unfold bX5_markRegular_69
  refine sm_iconst (pc := 69) dX5_markRegular_69 zc_i_1 ?_
  exact hj70
noncomputable def lX5_markRegular_37 {d : Nat} (P : zP d) (r2 : zK d) (r37 : zK d) : zK d := (xild 6 (xald 2 (xlen (xcmp tge (xald 0 (xgfR 21 4 (xild 1 (xild 4 (xast1 1 (fun v => zand v 1) (xald 0 (xgfR 21 2 (xild 1 (xild 3 (xjoin (bX5_markRegular_142 P r2) (fun j142 => (xif0 t0eq (xpI 4294967295 j142) (xald 0 (xgfI 21 3 j142)))))))))))))) (xild 6 (xjoin (bX5_markRegular_70 P r37) (fun j70 => (xjoin (bX5_markRegular_69 P j70) (fun j69 => (xif0 t0le j69 (xald 2 (xild 6 (xpI 1 (xbin zsub (xald1 0 (xald 2 (xild 6 (xald1 0 (xcmp Nat.beq (xild 5 (xpI 1 (xbin zadd j70))) j69)))))))))))))))))))
set_option maxRecDepth 100000 in
set_option maxHeartbeats 4000000 in
theorem slX5_markRegular_37 {d : Nat} [zGh] (P : zP d) (r2 : zK d) (r37 : zK d) (hr2 : zSim X_X5_markRegular 2 P 2 r2) (hr37 : zSim X_X5_markRegular 2 P 37 r37) : zSim X_X5_markRegular 2 P 37 (lX5_markRegular_37 P r2 r37) := by
  unfold lX5_markRegular_37
  refine sm_iload (pc := 37) (n := 6) dX5_markRegular_37 ?_
  refine sm_aload_n (pc := 39) (n := 2) dX5_markRegular_39 rfl ?_
  refine sm_arraylength (pc := 40) dX5_markRegular_40 ?_
  refine sm_icmp_ge (pc := 41) (tgt := 117) dX5_markRegular_41 (by decide) ?_ ?_
  · skip
    refine sm_aload_n (pc := 117) (n := 0) dX5_markRegular_117 rfl ?_
    refine gf_X5_28 (pc := 118) rfl dX5_markRegular_118 ?_
    refine sm_iload_n (pc := 121) (n := 1) dX5_markRegular_121 rfl ?_
    refine sm_iload (pc := 122) (n := 4) dX5_markRegular_122 ?_
    refine sm_bastore (pc := 124) dX5_markRegular_124 ?_
    refine sm_aload_n (pc := 125) (n := 0) dX5_markRegular_125 rfl ?_
    refine gf_X5_24 (pc := 126) rfl dX5_markRegular_126 ?_
    refine sm_iload_n (pc := 129) (n := 1) dX5_markRegular_129 rfl ?_
    refine sm_iload_n (pc := 130) (n := 3) dX5_markRegular_130 rfl ?_
    refine sm_join (pc := 131) (pc' := 142) (sbX5_markRegular_142 P r2 hr2) (fun j142 hj142 => ?_)
    refine sm_if_eq (pc := 131) (tgt := 141) dX5_markRegular_131 (by decide) ?_ ?_
    · skip
      refine sm_iconst (pc := 141) dX5_markRegular_141 zc_i_m1 ?_
      exact hj142
    · skip
      refine sm_aload_n (pc := 134) (n := 0) dX5_markRegular_134 rfl ?_
      refine gf_X5_89 (pc := 135) rfl dX5_markRegular_135 ?_
      refine sm_goto (pc := 138) (tgt := 142) dX5_markRegular_138 (by decide) ?_
      exact hj142
  · skip
    refine sm_iload (pc := 44) (n := 6) dX5_markRegular_44 ?_
    refine sm_join (pc := 46) (pc' := 70) (sbX5_markRegular_70 P r37 hr37) (fun j70 hj70 => ?_)
    refine sm_join (pc := 46) (pc' := 69) (sbX5_markRegular_69 P j70 hj70) (fun j69 hj69 => ?_)
    refine sm_if_le (pc := 46) (tgt := 69) dX5_markRegular_46 (by decide) ?_ ?_
    · skip
      exact hj69
    · skip
      refine sm_aload_n (pc := 49) (n := 2) dX5_markRegular_49 rfl ?_
      refine sm_iload (pc := 50) (n := 6) dX5_markRegular_50 ?_
      refine sm_iconst (pc := 52) dX5_markRegular_52 zc_i_1 ?_
      refine sm_isub (pc := 53) dX5_markRegular_53 ?_
      refine sm_iaload (pc := 54) dX5_markRegular_54 ?_
      refine sm_aload_n (pc := 55) (n := 2) dX5_markRegular_55 rfl ?_
      refine sm_iload (pc := 56) (n := 6) dX5_markRegular_56 ?_
      refine sm_iaload (pc := 58) dX5_markRegular_58 ?_
      refine sm_icmp_ne (pc := 59) (tgt := 69) dX5_markRegular_59 (by decide) ?_ ?_
      · skip
        exact hj69
      · skip
        refine sm_iload (pc := 62) (n := 5) dX5_markRegular_62 ?_
        refine sm_iconst (pc := 64) dX5_markRegular_64 zc_i_1 ?_
        refine sm_iadd (pc := 65) dX5_markRegular_65 ?_
        refine sm_goto (pc := 66) (tgt := 70) dX5_markRegular_66 (by decide) ?_
        exact hj70
noncomputable def lX5_markRegular_2 {d : Nat} (P : zP d) (r2 : zK d) : zK d := (xild 1 (xald 0 (xgfR 21 0 (xgfI 23 1 (xcmp tge (xvret P) (xald 0 (xgfR 21 0 (xgfR 23 3 (xild 1 (xaal (xgfR 20 2 (xast 2 (xpI 1 (xist 3 (xpI 1 (xist 4 (xpI 0 (xist 5 (xpI 0 (xist 6 (xloop (fun r37 => (lX5_markRegular_37 P r2 r37)) 100000)))))))))))))))))))))
set_option maxRecDepth 100000 in
set_option maxHeartbeats 4000000 in
theorem slX5_markRegular_2 {d : Nat} [zGh] (P : zP d) (r2 : zK d) (hr2 : zSim X_X5_markRegular 2 P 2 r2) : zSim X_X5_markRegular 2 P 2 (lX5_markRegular_2 P r2) := by
  unfold lX5_markRegular_2
  refine sm_iload_n (pc := 2) (n := 1) dX5_markRegular_2 rfl ?_
  refine sm_aload_n (pc := 3) (n := 0) dX5_markRegular_3 rfl ?_
  refine gf_X5_9 (pc := 4) rfl dX5_markRegular_4 ?_
  refine gf_X5_19 (pc := 7) rfl dX5_markRegular_7 ?_
  refine sm_icmp_ge (pc := 10) (tgt := 162) dX5_markRegular_10 (by decide) ?_ ?_
  · skip
    exact sm_vreturn (pc := 162) dX5_markRegular_162 rfl
  · skip
    refine sm_aload_n (pc := 13) (n := 0) dX5_markRegular_13 rfl ?_
    refine gf_X5_9 (pc := 14) rfl dX5_markRegular_14 ?_
    refine gf_X5_80 (pc := 17) rfl dX5_markRegular_17 ?_
    refine sm_iload_n (pc := 20) (n := 1) dX5_markRegular_20 rfl ?_
    refine sm_aaload (pc := 21) dX5_markRegular_21 ?_
    refine gf_X5_84 (pc := 22) rfl dX5_markRegular_22 ?_
    refine sm_astore_n (pc := 25) (n := 2) dX5_markRegular_25 rfl ?_
    refine sm_iconst (pc := 26) dX5_markRegular_26 zc_i_1 ?_
    refine sm_istore_n (pc := 27) (n := 3) dX5_markRegular_27 rfl ?_
    refine sm_iconst (pc := 28) dX5_markRegular_28 zc_i_1 ?_
    refine sm_istore (pc := 29) (n := 4) dX5_markRegular_29 ?_
    refine sm_iconst (pc := 31) dX5_markRegular_31 zc_i_0 ?_
    refine sm_istore (pc := 32) (n := 5) dX5_markRegular_32 ?_
    refine sm_iconst (pc := 34) dX5_markRegular_34 zc_i_0 ?_
    refine sm_istore (pc := 35) (n := 6) dX5_markRegular_35 ?_
    exact sm_loop (fun r37 hr37 => slX5_markRegular_37 P r2 r37 hr2 hr37) _
noncomputable def b_X5_markRegular {d : Nat} (P : zP d) : zK d := (xpI 0 (xist 1 (xloop (fun r2 => (lX5_markRegular_2 P r2)) 100000)))
set_option maxRecDepth 100000 in
set_option maxHeartbeats 4000000 in
theorem s_X5_markRegular {d : Nat} [zGh] (P : zP d) : zSim X_X5_markRegular 2 P 0 (b_X5_markRegular P) := by
  unfold b_X5_markRegular
  refine sm_iconst (pc := 0) dX5_markRegular_0 zc_i_0 ?_
  refine sm_istore_n (pc := 1) (n := 1) dX5_markRegular_1 rfl ?_
  exact sm_loop (fun r2 hr2 => slX5_markRegular_2 P r2 hr2) _
noncomputable def f_X5_markRegular {d : Nat} : List zV → zH d → zP d → Bool := zfn 7 b_X5_markRegular
theorem m_X5_markRegular {d : Nat} : zMet (d := d) X_X5_markRegular yX5_markRegular 2 f_X5_markRegular := zmet_mk (X := X_X5_markRegular) (by decide) rfl rfl s_X5_markRegular

abbrev X_X5_rankOfDifference : zM := (RX5, cX5_rankOfDifference, 6, (some .int), "rankOfDifference")
noncomputable def bX5_rankOfDifference_58 {d : Nat} (P : zP d) (r15 : zK d) : zK d := (xcV 19 4 0 0 f_X3_set (xinc 5 1 r15))
set_option maxRecDepth 100000 in
set_option maxHeartbeats 4000000 in
theorem sbX5_rankOfDifference_58 {d : Nat} [zGh] (P : zP d) (r15 : zK d) (hr15 : zSim X_X5_rankOfDifference 3 P 15 r15) : zSim X_X5_rankOfDifference 3 P 58 (bX5_rankOfDifference_58 P r15) := by
  unfold bX5_rankOfDifference_58
  refine sm_cV (pc := 58) (ci := 3) (n := 4) (mc := 0) (ms := 0) rfl m_X3_set (cr_X5_132 (X := X_X5_rankOfDifference) (fr := 3) (frc := 1) (pc := 58) (mc := 0) (ms := 0) rfl (by decide) dX5_rankOfDifference_58) ?_
  refine sm_iinc (pc := 61) (n := 5) dX5_rankOfDifference_61 zc_i_1 ?_
  refine sm_goto (pc := 64) (tgt := 15) dX5_rankOfDifference_64 (by decide) ?_
  exact hr15
noncomputable def lX5_rankOfDifference_15 {d : Nat} (P : zP d) (r15 : zK d) (r3 : zK d) : zK d := (xild 5 (xald 0 (xgfI 20 5 (xcmp tge (xinc 4 1 r3) (xald 3 (xild 4 (xild 5 (xald 2 (xjoin (bX5_rankOfDifference_58 P r15) (fun j58 => (xnn (xald 1 (xild 4 (xaal (xild 5 (xald1 0 (xald 2 (xild 4 (xaal (xild 5 (xald1 0 (xbin zsub j58))))))))))) (xald 1 (xild 4 (xaal (xild 5 (xald1 0 j58))))))))))))))))
set_option maxRecDepth 100000 in
set_option maxHeartbeats 4000000 in
theorem slX5_rankOfDifference_15 {d : Nat} [zGh] (P : zP d) (r15 : zK d) (r3 : zK d) (hr15 : zSim X_X5_rankOfDifference 3 P 15 r15) (hr3 : zSim X_X5_rankOfDifference 3 P 3 r3) : zSim X_X5_rankOfDifference 3 P 15 (lX5_rankOfDifference_15 P r15 r3) := by
  unfold lX5_rankOfDifference_15
  refine sm_iload (pc := 15) (n := 5) dX5_rankOfDifference_15 ?_
  refine sm_aload_n (pc := 17) (n := 0) dX5_rankOfDifference_17 rfl ?_
  refine gf_X5_96 (pc := 18) rfl dX5_rankOfDifference_18 ?_
  refine sm_icmp_ge (pc := 21) (tgt := 67) dX5_rankOfDifference_21 (by decide) ?_ ?_
  · skip
    refine sm_iinc (pc := 67) (n := 4) dX5_rankOfDifference_67 zc_i_1 ?_
    refine sm_goto (pc := 70) (tgt := 3) dX5_rankOfDifference_70 (by decide) ?_
    exact hr3
  · skip
    refine sm_aload_n (pc := 24) (n := 3) dX5_rankOfDifference_24 rfl ?_
    refine sm_iload (pc := 25) (n := 4) dX5_rankOfDifference_25 ?_
    refine sm_iload (pc := 27) (n := 5) dX5_rankOfDifference_27 ?_
    refine sm_aload_n (pc := 29) (n := 2) dX5_rankOfDifference_29 rfl ?_
    refine sm_join (pc := 30) (pc' := 58) (sbX5_rankOfDifference_58 P r15 hr15) (fun j58 hj58 => ?_)
    refine sm_ifnonnull (pc := 30) (tgt := 43) dX5_rankOfDifference_30 (by decide) ?_ ?_
    · skip
      refine sm_aload_n (pc := 43) (n := 1) dX5_rankOfDifference_43 rfl ?_
      refine sm_iload (pc := 44) (n := 4) dX5_rankOfDifference_44 ?_
      refine sm_aaload (pc := 46) dX5_rankOfDifference_46 ?_
      refine sm_iload (pc := 47) (n := 5) dX5_rankOfDifference_47 ?_
      refine sm_iaload (pc := 49) dX5_rankOfDifference_49 ?_
      refine sm_aload_n (pc := 50) (n := 2) dX5_rankOfDifference_50 rfl ?_
      refine sm_iload (pc := 51) (n := 4) dX5_rankOfDifference_51 ?_
      refine sm_aaload (pc := 53) dX5_rankOfDifference_53 ?_
      refine sm_iload (pc := 54) (n := 5) dX5_rankOfDifference_54 ?_
      refine sm_iaload (pc := 56) dX5_rankOfDifference_56 ?_
      refine sm_isub (pc := 57) dX5_rankOfDifference_57 ?_
      exact hj58
    · skip
      refine sm_aload_n (pc := 33) (n := 1) dX5_rankOfDifference_33 rfl ?_
      refine sm_iload (pc := 34) (n := 4) dX5_rankOfDifference_34 ?_
      refine sm_aaload (pc := 36) dX5_rankOfDifference_36 ?_
      refine sm_iload (pc := 37) (n := 5) dX5_rankOfDifference_37 ?_
      refine sm_iaload (pc := 39) dX5_rankOfDifference_39 ?_
      refine sm_goto (pc := 40) (tgt := 58) dX5_rankOfDifference_40 (by decide) ?_
      exact hj58
noncomputable def lX5_rankOfDifference_3 {d : Nat} (P : zP d) (r3 : zK d) : zK d := (xild 4 (xald 0 (xgfI 20 5 (xcmp tge (xald 3 (xald 0 (xgfI 20 5 (xald 0 (xgfI 20 5 (xald 0 (xgfI 20 5 (xcV 19 4 0 0 f_X3_reduce (xiret P))))))))) (xpI 0 (xist 5 (xloop (fun r15 => (lX5_rankOfDifference_15 P r15 r3)) 100000)))))))
set_option maxRecDepth 100000 in
set_option maxHeartbeats 4000000 in
theorem slX5_rankOfDifference_3 {d : Nat} [zGh] (P : zP d) (r3 : zK d) (hr3 : zSim X_X5_rankOfDifference 3 P 3 r3) : zSim X_X5_rankOfDifference 3 P 3 (lX5_rankOfDifference_3 P r3) := by
  unfold lX5_rankOfDifference_3
  refine sm_iload (pc := 3) (n := 4) dX5_rankOfDifference_3 ?_
  refine sm_aload_n (pc := 5) (n := 0) dX5_rankOfDifference_5 rfl ?_
  refine gf_X5_96 (pc := 6) rfl dX5_rankOfDifference_6 ?_
  refine sm_icmp_ge (pc := 9) (tgt := 73) dX5_rankOfDifference_9 (by decide) ?_ ?_
  · skip
    refine sm_aload_n (pc := 73) (n := 3) dX5_rankOfDifference_73 rfl ?_
    refine sm_aload_n (pc := 74) (n := 0) dX5_rankOfDifference_74 rfl ?_
    refine gf_X5_96 (pc := 75) rfl dX5_rankOfDifference_75 ?_
    refine sm_aload_n (pc := 78) (n := 0) dX5_rankOfDifference_78 rfl ?_
    refine gf_X5_96 (pc := 79) rfl dX5_rankOfDifference_79 ?_
    refine sm_aload_n (pc := 82) (n := 0) dX5_rankOfDifference_82 rfl ?_
    refine gf_X5_96 (pc := 83) rfl dX5_rankOfDifference_83 ?_
    refine sm_cV (pc := 86) (ci := 3) (n := 4) (mc := 0) (ms := 0) rfl m_X3_reduce (cr_X5_135 (X := X_X5_rankOfDifference) (fr := 3) (frc := 2) (pc := 86) (mc := 0) (ms := 0) rfl (by decide) dX5_rankOfDifference_86) ?_
    exact sm_ireturn (pc := 89) dX5_rankOfDifference_89 rfl
  · skip
    refine sm_iconst (pc := 12) dX5_rankOfDifference_12 zc_i_0 ?_
    refine sm_istore (pc := 13) (n := 5) dX5_rankOfDifference_13 ?_
    exact sm_loop (fun r15 hr15 => slX5_rankOfDifference_15 P r15 r3 hr15 hr3) _
noncomputable def b_X5_rankOfDifference {d : Nat} (P : zP d) : zK d := (xpI 0 (xist 4 (xloop (fun r3 => (lX5_rankOfDifference_3 P r3)) 100000)))
set_option maxRecDepth 100000 in
set_option maxHeartbeats 4000000 in
theorem s_X5_rankOfDifference {d : Nat} [zGh] (P : zP d) : zSim X_X5_rankOfDifference 3 P 0 (b_X5_rankOfDifference P) := by
  unfold b_X5_rankOfDifference
  refine sm_iconst (pc := 0) dX5_rankOfDifference_0 zc_i_0 ?_
  refine sm_istore (pc := 1) (n := 4) dX5_rankOfDifference_1 ?_
  exact sm_loop (fun r3 hr3 => slX5_rankOfDifference_3 P r3 hr3) _
noncomputable def f_X5_rankOfDifference {d : Nat} : List zV → zH d → zP d → Bool := zfn 6 b_X5_rankOfDifference
theorem m_X5_rankOfDifference {d : Nat} : zMet (d := d) X_X5_rankOfDifference yX5_rankOfDifference 3 f_X5_rankOfDifference := zmet_mk (X := X_X5_rankOfDifference) (by decide) rfl rfl s_X5_rankOfDifference

abbrev X_X5_makeFixed : zM := (RX5, cX5_makeFixed, 7, none, "makeFixed")
noncomputable def bX5_makeFixed_83 {d : Nat} (P : zP d) (r14 : zK d) : zK d := (xinc 6 1 r14)
set_option maxRecDepth 100000 in
set_option maxHeartbeats 4000000 in
theorem sbX5_makeFixed_83 {d : Nat} [zGh] (P : zP d) (r14 : zK d) (hr14 : zSim X_X5_makeFixed 4 P 14 r14) : zSim X_X5_makeFixed 4 P 83 (bX5_makeFixed_83 P r14) := by
  unfold bX5_makeFixed_83
  refine sm_iinc (pc := 83) (n := 6) dX5_makeFixed_83 zc_i_1 ?_
  refine sm_goto (pc := 86) (tgt := 14) dX5_makeFixed_86 (by decide) ?_
  exact hr14
noncomputable def cX5_makeFixed_64 {d : Nat} (P : zP d) (j83 : zK d) : zK d := (xgfR 21 5 (xild 1 (xald1 0 (xald 5 (xald 2 (xald 5 (xgfR 20 7 (xald 3 (xcS 4 0 0 f_X5_rankOfDifference (xbin zsub (xast1 0 (fun v => v) j83)))))))))))
set_option maxRecDepth 100000 in
set_option maxHeartbeats 4000000 in
theorem scX5_makeFixed_64 {d : Nat} [zGh] (P : zP d) (j83 : zK d) (hj83 : zSim X_X5_makeFixed 4 P 83 j83) : zSim X_X5_makeFixed 4 P 64 (cX5_makeFixed_64 P j83) := by
  unfold cX5_makeFixed_64
  refine gf_X5_35 (pc := 64) rfl dX5_makeFixed_64 ?_
  refine sm_iload_n (pc := 67) (n := 1) dX5_makeFixed_67 rfl ?_
  refine sm_iaload (pc := 68) dX5_makeFixed_68 ?_
  refine sm_aload (pc := 69) (n := 5) dX5_makeFixed_69 ?_
  refine sm_aload_n (pc := 71) (n := 2) dX5_makeFixed_71 rfl ?_
  refine sm_aload (pc := 72) (n := 5) dX5_makeFixed_72 ?_
  refine gf_X5_110 (pc := 74) rfl dX5_makeFixed_74 ?_
  refine sm_aload_n (pc := 77) (n := 3) dX5_makeFixed_77 rfl ?_
  refine sm_cS (pc := 78) (n := 4) (mc := 0) (ms := 0) m_X5_rankOfDifference (cr_X5_113 (X := X_X5_makeFixed) (fr := 4) (frc := 3) (pc := 78) (mc := 0) (ms := 0) rfl (by decide) dX5_makeFixed_78) ?_
  refine sm_isub (pc := 81) dX5_makeFixed_81 ?_
  refine sm_iastore (pc := 82) dX5_makeFixed_82 ?_
  exact hj83
noncomputable def lX5_makeFixed_14 {d : Nat} (P : zP d) (r14 : zK d) : zK d := (xild 6 (xald 0 (xgfR 21 0 (xgfI 23 1 (xcmp tge (xvret P) (xald 0 (xgfR 21 4 (xild 6 (xald1 1 (xjoin (bX5_makeFixed_83 P r14) (fun j83 => (xif0 t0eq j83 (xald 5 (xald 0 (xgfR 21 0 (xgfR 23 10 (xild 6 (xaal (xald 0 (xgfR 21 0 (xgfR 23 13 (xald 2 (xcV 20 4 0 0 f_X4_makeMovedForms (xald 4 (xild 6 (xald 0 (cX5_makeFixed_64 P j83)))))))))))))))))))))))))))
set_option maxRecDepth 100000 in
set_option maxHeartbeats 4000000 in
theorem slX5_makeFixed_14 {d : Nat} [zGh] (P : zP d) (r14 : zK d) (hr14 : zSim X_X5_makeFixed 4 P 14 r14) : zSim X_X5_makeFixed 4 P 14 (lX5_makeFixed_14 P r14) := by
  unfold lX5_makeFixed_14
  refine sm_iload (pc := 14) (n := 6) dX5_makeFixed_14 ?_
  refine sm_aload_n (pc := 16) (n := 0) dX5_makeFixed_16 rfl ?_
  refine gf_X5_9 (pc := 17) rfl dX5_makeFixed_17 ?_
  refine gf_X5_19 (pc := 20) rfl dX5_makeFixed_20 ?_
  refine sm_icmp_ge (pc := 23) (tgt := 89) dX5_makeFixed_23 (by decide) ?_ ?_
  · skip
    exact sm_vreturn (pc := 89) dX5_makeFixed_89 rfl
  · skip
    refine sm_aload_n (pc := 26) (n := 0) dX5_makeFixed_26 rfl ?_
    refine gf_X5_28 (pc := 27) rfl dX5_makeFixed_27 ?_
    refine sm_iload (pc := 30) (n := 6) dX5_makeFixed_30 ?_
    refine sm_baload (pc := 32) dX5_makeFixed_32 ?_
    refine sm_join (pc := 33) (pc' := 83) (sbX5_makeFixed_83 P r14 hr14) (fun j83 hj83 => ?_)
    refine sm_if_eq (pc := 33) (tgt := 83) dX5_makeFixed_33 (by decide) ?_ ?_
    · skip
      exact hj83
    · skip
      refine sm_aload (pc := 36) (n := 5) dX5_makeFixed_36 ?_
      refine sm_aload_n (pc := 38) (n := 0) dX5_makeFixed_38 rfl ?_
      refine gf_X5_9 (pc := 39) rfl dX5_makeFixed_39 ?_
      refine gf_X5_139 (pc := 42) rfl dX5_makeFixed_42 ?_
      refine sm_iload (pc := 45) (n := 6) dX5_makeFixed_45 ?_
      refine sm_aaload (pc := 47) dX5_makeFixed_47 ?_
      refine sm_aload_n (pc := 48) (n := 0) dX5_makeFixed_48 rfl ?_
      refine gf_X5_9 (pc := 49) rfl dX5_makeFixed_49 ?_
      refine gf_X5_142 (pc := 52) rfl dX5_makeFixed_52 ?_
      refine sm_aload_n (pc := 55) (n := 2) dX5_makeFixed_55 rfl ?_
      refine sm_cV (pc := 56) (ci := 4) (n := 4) (mc := 0) (ms := 0) rfl m_X4_makeMovedForms (cr_X5_145 (X := X_X5_makeFixed) (fr := 4) (frc := 2) (pc := 56) (mc := 0) (ms := 0) rfl (by decide) dX5_makeFixed_56) ?_
      refine sm_aload (pc := 59) (n := 4) dX5_makeFixed_59 ?_
      refine sm_iload (pc := 61) (n := 6) dX5_makeFixed_61 ?_
      refine sm_aload_n (pc := 63) (n := 0) dX5_makeFixed_63 rfl ?_
      exact scX5_makeFixed_64 P j83 hj83
noncomputable def b_X5_makeFixed {d : Nat} (P : zP d) : zK d := (xald 0 (xgfR 21 0 (xgfR 23 3 (xild 1 (xaal (xast 5 (xpI 0 (xist 6 (xloop (fun r14 => (lX5_makeFixed_14 P r14)) 100000)))))))))
set_option maxRecDepth 100000 in
set_option maxHeartbeats 4000000 in
theorem s_X5_makeFixed {d : Nat} [zGh] (P : zP d) : zSim X_X5_makeFixed 4 P 0 (b_X5_makeFixed P) := by
  unfold b_X5_makeFixed
  refine sm_aload_n (pc := 0) (n := 0) dX5_makeFixed_0 rfl ?_
  refine gf_X5_9 (pc := 1) rfl dX5_makeFixed_1 ?_
  refine gf_X5_80 (pc := 4) rfl dX5_makeFixed_4 ?_
  refine sm_iload_n (pc := 7) (n := 1) dX5_makeFixed_7 rfl ?_
  refine sm_aaload (pc := 8) dX5_makeFixed_8 ?_
  refine sm_astore (pc := 9) (n := 5) dX5_makeFixed_9 ?_
  refine sm_iconst (pc := 11) dX5_makeFixed_11 zc_i_0 ?_
  refine sm_istore (pc := 12) (n := 6) dX5_makeFixed_12 ?_
  exact sm_loop (fun r14 hr14 => slX5_makeFixed_14 P r14 hr14) _
noncomputable def f_X5_makeFixed {d : Nat} : List zV → zH d → zP d → Bool := zfn 7 b_X5_makeFixed
theorem m_X5_makeFixed {d : Nat} : zMet (d := d) X_X5_makeFixed yX5_makeFixed 4 f_X5_makeFixed := zmet_mk (X := X_X5_makeFixed) (by decide) rfl rfl s_X5_makeFixed

abbrev X_X5_dimensionsOfOrder : zM := (RX5, cX5_dimensionsOfOrder, 6, (some .int), "dimensionsOfOrder")
noncomputable def bX5_dimensionsOfOrder_47 {d : Nat} (P : zP d) (r6 : zK d) : zK d := (xinc 5 1 r6)
set_option maxRecDepth 100000 in
set_option maxHeartbeats 4000000 in
theorem sbX5_dimensionsOfOrder_47 {d : Nat} [zGh] (P : zP d) (r6 : zK d) (hr6 : zSim X_X5_dimensionsOfOrder 1 P 6 r6) : zSim X_X5_dimensionsOfOrder 1 P 47 (bX5_dimensionsOfOrder_47 P r6) := by
  unfold bX5_dimensionsOfOrder_47
  refine sm_iinc (pc := 47) (n := 5) dX5_dimensionsOfOrder_47 zc_i_1 ?_
  refine sm_goto (pc := 50) (tgt := 6) dX5_dimensionsOfOrder_50 (by decide) ?_
  exact hr6
noncomputable def lX5_dimensionsOfOrder_6 {d : Nat} (P : zP d) (r6 : zK d) : zK d := (xild 5 (xild 2 (xcmp tle (xild 2 (xild 5 (xbinN zrem (xjoin (bX5_dimensionsOfOrder_47 P r6) (fun j47 => (xif0 t0eq (xild 4 (xst2 ztb2 2 5 (xald 3 (xald 0 (xgfR 21 0 (xgfR 23 9 (xild 1 (xaal (xild 5 (xald1 0 (xald1 0 (xbin zmul (xbin zadd (xist 4 j47)))))))))))))) j47)))))) (xild 4 (xiret P)))))
set_option maxRecDepth 100000 in
set_option maxHeartbeats 4000000 in
theorem slX5_dimensionsOfOrder_6 {d : Nat} [zGh] (P : zP d) (r6 : zK d) (hr6 : zSim X_X5_dimensionsOfOrder 1 P 6 r6) : zSim X_X5_dimensionsOfOrder 1 P 6 (lX5_dimensionsOfOrder_6 P r6) := by
  unfold lX5_dimensionsOfOrder_6
  refine sm_iload (pc := 6) (n := 5) dX5_dimensionsOfOrder_6 ?_
  refine sm_iload_n (pc := 8) (n := 2) dX5_dimensionsOfOrder_8 rfl ?_
  refine sm_icmp_gt (pc := 9) (tgt := 53) dX5_dimensionsOfOrder_9 (by decide) ?_ ?_
  · skip
    refine sm_iload (pc := 53) (n := 4) dX5_dimensionsOfOrder_53 ?_
    exact sm_ireturn (pc := 55) dX5_dimensionsOfOrder_55 rfl
  · skip
    refine sm_iload_n (pc := 12) (n := 2) dX5_dimensionsOfOrder_12 rfl ?_
    refine sm_iload (pc := 13) (n := 5) dX5_dimensionsOfOrder_13 ?_
    refine sm_irem (pc := 15) dX5_dimensionsOfOrder_15 ?_
    refine sm_join (pc := 16) (pc' := 47) (sbX5_dimensionsOfOrder_47 P r6 hr6) (fun j47 hj47 => ?_)
    refine sm_if_ne (pc := 16) (tgt := 47) dX5_dimensionsOfOrder_16 (by decide) ?_ ?_
    · skip
      exact hj47
    · skip
      refine sm_iload (pc := 19) (n := 4) dX5_dimensionsOfOrder_19 ?_
      refine sm_st2 (pc := 21) (C := RX5) (nm := "ROOT_SUM") (tb := ztb2) (n1 := 2) (n2 := 5) rfl (fun _ _ h => h.2.1) wd_406 dX5_dimensionsOfOrder_21 dX5_dimensionsOfOrder_24 rfl dX5_dimensionsOfOrder_25 dX5_dimensionsOfOrder_27 dX5_dimensionsOfOrder_28 ?_
      refine sm_aload_n (pc := 29) (n := 3) dX5_dimensionsOfOrder_29 rfl ?_
      refine sm_aload_n (pc := 30) (n := 0) dX5_dimensionsOfOrder_30 rfl ?_
      refine gf_X5_9 (pc := 31) rfl dX5_dimensionsOfOrder_31 ?_
      refine gf_X5_162 (pc := 34) rfl dX5_dimensionsOfOrder_34 ?_
      refine sm_iload_n (pc := 37) (n := 1) dX5_dimensionsOfOrder_37 rfl ?_
      refine sm_aaload (pc := 38) dX5_dimensionsOfOrder_38 ?_
      refine sm_iload (pc := 39) (n := 5) dX5_dimensionsOfOrder_39 ?_
      refine sm_iaload (pc := 41) dX5_dimensionsOfOrder_41 ?_
      refine sm_iaload (pc := 42) dX5_dimensionsOfOrder_42 ?_
      refine sm_imul (pc := 43) dX5_dimensionsOfOrder_43 ?_
      refine sm_iadd (pc := 44) dX5_dimensionsOfOrder_44 ?_
      refine sm_istore (pc := 45) (n := 4) dX5_dimensionsOfOrder_45 ?_
      exact hj47
noncomputable def b_X5_dimensionsOfOrder {d : Nat} (P : zP d) : zK d := (xpI 0 (xist 4 (xpI 1 (xist 5 (xloop (fun r6 => (lX5_dimensionsOfOrder_6 P r6)) 100000)))))
set_option maxRecDepth 100000 in
set_option maxHeartbeats 4000000 in
theorem s_X5_dimensionsOfOrder {d : Nat} [zGh] (P : zP d) : zSim X_X5_dimensionsOfOrder 1 P 0 (b_X5_dimensionsOfOrder P) := by
  unfold b_X5_dimensionsOfOrder
  refine sm_iconst (pc := 0) dX5_dimensionsOfOrder_0 zc_i_0 ?_
  refine sm_istore (pc := 1) (n := 4) dX5_dimensionsOfOrder_1 ?_
  refine sm_iconst (pc := 3) dX5_dimensionsOfOrder_3 zc_i_1 ?_
  refine sm_istore (pc := 4) (n := 5) dX5_dimensionsOfOrder_4 ?_
  exact sm_loop (fun r6 hr6 => slX5_dimensionsOfOrder_6 P r6 hr6) _
noncomputable def f_X5_dimensionsOfOrder {d : Nat} : List zV → zH d → zP d → Bool := zfn 6 b_X5_dimensionsOfOrder
theorem m_X5_dimensionsOfOrder {d : Nat} : zMet (d := d) X_X5_dimensionsOfOrder yX5_dimensionsOfOrder 1 f_X5_dimensionsOfOrder := zmet_mk (X := X_X5_dimensionsOfOrder) (by decide) rfl rfl s_X5_dimensionsOfOrder

abbrev X_X5_sumOfRoots : zM := (RX5, cX5_sumOfRoots, 6, (some .int), "sumOfRoots")
noncomputable def bX5_sumOfRoots_71 {d : Nat} (P : zP d) : zK d := (xild 4 (xiret P))
set_option maxRecDepth 100000 in
set_option maxHeartbeats 4000000 in
theorem sbX5_sumOfRoots_71 {d : Nat} [zGh] (P : zP d) : zSim X_X5_sumOfRoots 2 P 71 (bX5_sumOfRoots_71 P) := by
  unfold bX5_sumOfRoots_71
  refine sm_iload (pc := 71) (n := 4) dX5_sumOfRoots_71 ?_
  exact sm_ireturn (pc := 73) dX5_sumOfRoots_73 rfl
noncomputable def bX5_sumOfRoots_65 {d : Nat} (P : zP d) (r16 : zK d) : zK d := (xinc 5 1 r16)
set_option maxRecDepth 100000 in
set_option maxHeartbeats 4000000 in
theorem sbX5_sumOfRoots_65 {d : Nat} [zGh] (P : zP d) (r16 : zK d) (hr16 : zSim X_X5_sumOfRoots 2 P 16 r16) : zSim X_X5_sumOfRoots 2 P 65 (bX5_sumOfRoots_65 P r16) := by
  unfold bX5_sumOfRoots_65
  refine sm_iinc (pc := 65) (n := 5) dX5_sumOfRoots_65 zc_i_1 ?_
  refine sm_goto (pc := 68) (tgt := 16) dX5_sumOfRoots_68 (by decide) ?_
  exact hr16
noncomputable def lX5_sumOfRoots_16 {d : Nat} (P : zP d) (r16 : zK d) : zK d := (xild 5 (xild 3 (xjoin (bX5_sumOfRoots_71 P) (fun j71 => (xcmp tle (xild 5 (xpI 7 (xcmp tge j71 (xild 3 (xild 5 (xbinN zrem (xjoin (bX5_sumOfRoots_65 P r16) (fun j65 => (xif0 t0eq (xild 4 (xald 0 (xild 1 (xild 5 (xald 2 (xcV 21 4 0 0 f_X5_dimensionsOfOrder (xst ztb3 5 (xbinN zdiv (xst ztb2 5 (xbin zmul (xbin zadd (xist 4 j65)))))))))))) j65))))))))) j71)))))
set_option maxRecDepth 100000 in
set_option maxHeartbeats 4000000 in
theorem slX5_sumOfRoots_16 {d : Nat} [zGh] (P : zP d) (r16 : zK d) (hr16 : zSim X_X5_sumOfRoots 2 P 16 r16) : zSim X_X5_sumOfRoots 2 P 16 (lX5_sumOfRoots_16 P r16) := by
  unfold lX5_sumOfRoots_16
  refine sm_iload (pc := 16) (n := 5) dX5_sumOfRoots_16 ?_
  refine sm_iload_n (pc := 18) (n := 3) dX5_sumOfRoots_18 rfl ?_
  refine sm_join (pc := 19) (pc' := 71) (sbX5_sumOfRoots_71 P) (fun j71 hj71 => ?_)
  refine sm_icmp_gt (pc := 19) (tgt := 71) dX5_sumOfRoots_19 (by decide) ?_ ?_
  · skip
    exact hj71
  · skip
    refine sm_iload (pc := 22) (n := 5) dX5_sumOfRoots_22 ?_
    refine sm_stlen (pc := 24) (C := RX5) (nm := "ROOT_COUNT") (tb := ztb3) (fun _ _ h => h.2.2) wd_400 dX5_sumOfRoots_24 dX5_sumOfRoots_27 ?_
    refine sm_icmp_ge (pc := 28) (tgt := 71) dX5_sumOfRoots_28 (by decide) ?_ ?_
    · skip
      exact hj71
    · skip
      refine sm_iload_n (pc := 31) (n := 3) dX5_sumOfRoots_31 rfl ?_
      refine sm_iload (pc := 32) (n := 5) dX5_sumOfRoots_32 ?_
      refine sm_irem (pc := 34) dX5_sumOfRoots_34 ?_
      refine sm_join (pc := 35) (pc' := 65) (sbX5_sumOfRoots_65 P r16 hr16) (fun j65 hj65 => ?_)
      refine sm_if_ne (pc := 35) (tgt := 65) dX5_sumOfRoots_35 (by decide) ?_ ?_
      · skip
        exact hj65
      · skip
        refine sm_iload (pc := 38) (n := 4) dX5_sumOfRoots_38 ?_
        refine sm_aload_n (pc := 40) (n := 0) dX5_sumOfRoots_40 rfl ?_
        refine sm_iload_n (pc := 41) (n := 1) dX5_sumOfRoots_41 rfl ?_
        refine sm_iload (pc := 42) (n := 5) dX5_sumOfRoots_42 ?_
        refine sm_aload_n (pc := 44) (n := 2) dX5_sumOfRoots_44 rfl ?_
        refine sm_cV (pc := 45) (ci := 5) (n := 4) (mc := 0) (ms := 0) rfl m_X5_dimensionsOfOrder (cr_X5_155 (X := X_X5_sumOfRoots) (fr := 2) (frc := 1) (pc := 45) (mc := 0) (ms := 0) rfl (by decide) dX5_sumOfRoots_45) ?_
        refine sm_st (pc := 48) (C := RX5) (nm := "ROOT_COUNT") (tb := ztb3) (n := 5) (l2 := 2) rfl (fun _ _ h => h.2.2) wd_400 dX5_sumOfRoots_48 (fun hx hb hl kk => lv_iload hx hb dX5_sumOfRoots_51 hl kk) dX5_sumOfRoots_53 ?_
        refine sm_idiv (pc := 54) dX5_sumOfRoots_54 ?_
        refine sm_st (pc := 55) (C := RX5) (nm := "ROOT_SUM") (tb := ztb2) (n := 5) (l2 := 2) rfl (fun _ _ h => h.2.1) wd_406 dX5_sumOfRoots_55 (fun hx hb hl kk => lv_iload hx hb dX5_sumOfRoots_58 hl kk) dX5_sumOfRoots_60 ?_
        refine sm_imul (pc := 61) dX5_sumOfRoots_61 ?_
        refine sm_iadd (pc := 62) dX5_sumOfRoots_62 ?_
        refine sm_istore (pc := 63) (n := 4) dX5_sumOfRoots_63 ?_
        exact hj65
noncomputable def b_X5_sumOfRoots {d : Nat} (P : zP d) : zK d := (xald 0 (xgfR 21 0 (xgfR 23 6 (xild 1 (xald1 0 (xist 3 (xpI 0 (xist 4 (xpI 1 (xist 5 (xloop (fun r16 => (lX5_sumOfRoots_16 P r16)) 100000)))))))))))
set_option maxRecDepth 100000 in
set_option maxHeartbeats 4000000 in
theorem s_X5_sumOfRoots {d : Nat} [zGh] (P : zP d) : zSim X_X5_sumOfRoots 2 P 0 (b_X5_sumOfRoots P) := by
  unfold b_X5_sumOfRoots
  refine sm_aload_n (pc := 0) (n := 0) dX5_sumOfRoots_0 rfl ?_
  refine gf_X5_9 (pc := 1) rfl dX5_sumOfRoots_1 ?_
  refine gf_X5_149 (pc := 4) rfl dX5_sumOfRoots_4 ?_
  refine sm_iload_n (pc := 7) (n := 1) dX5_sumOfRoots_7 rfl ?_
  refine sm_iaload (pc := 8) dX5_sumOfRoots_8 ?_
  refine sm_istore_n (pc := 9) (n := 3) dX5_sumOfRoots_9 rfl ?_
  refine sm_iconst (pc := 10) dX5_sumOfRoots_10 zc_i_0 ?_
  refine sm_istore (pc := 11) (n := 4) dX5_sumOfRoots_11 ?_
  refine sm_iconst (pc := 13) dX5_sumOfRoots_13 zc_i_1 ?_
  refine sm_istore (pc := 14) (n := 5) dX5_sumOfRoots_14 ?_
  exact sm_loop (fun r16 hr16 => slX5_sumOfRoots_16 P r16 hr16) _
noncomputable def f_X5_sumOfRoots {d : Nat} : List zV → zH d → zP d → Bool := zfn 6 b_X5_sumOfRoots
theorem m_X5_sumOfRoots {d : Nat} : zMet (d := d) X_X5_sumOfRoots yX5_sumOfRoots 2 f_X5_sumOfRoots := zmet_mk (X := X_X5_sumOfRoots) (by decide) rfl rfl s_X5_sumOfRoots

abbrev X_X5_makeModulars : zM := (RX5, cX5_makeModulars, 8, none, "makeModulars")
noncomputable def bX5_makeModulars_233 {d : Nat} (P : zP d) (r73 : zK d) : zK d := (xinc 5 1 r73)
set_option maxRecDepth 100000 in
set_option maxHeartbeats 4000000 in
theorem sbX5_makeModulars_233 {d : Nat} [zGh] (P : zP d) (r73 : zK d) (hr73 : zSim X_X5_makeModulars 5 P 73 r73) : zSim X_X5_makeModulars 5 P 233 (bX5_makeModulars_233 P r73) := by
  unfold bX5_makeModulars_233
  refine sm_iinc (pc := 233) (n := 5) dX5_makeModulars_233 zc_i_1 ?_
  refine sm_goto (pc := 236) (tgt := 73) dX5_makeModulars_236 (by decide) ?_
  exact hr73
noncomputable def bX5_makeModulars_227 {d : Nat} (P : zP d) (r156 : zK d) : zK d := (xinc 7 1 r156)
set_option maxRecDepth 100000 in
set_option maxHeartbeats 4000000 in
theorem sbX5_makeModulars_227 {d : Nat} [zGh] (P : zP d) (r156 : zK d) (hr156 : zSim X_X5_makeModulars 5 P 156 r156) : zSim X_X5_makeModulars 5 P 227 (bX5_makeModulars_227 P r156) := by
  unfold bX5_makeModulars_227
  refine sm_iinc (pc := 227) (n := 7) dX5_makeModulars_227 zc_i_1 ?_
  refine sm_goto (pc := 230) (tgt := 156) dX5_makeModulars_230 (by decide) ?_
  exact hr156
noncomputable def bX5_makeModulars_226 {d : Nat} (P : zP d) (j227 : zK d) : zK d := (xast1 0 (fun v => v) j227)
set_option maxRecDepth 100000 in
set_option maxHeartbeats 4000000 in
theorem sbX5_makeModulars_226 {d : Nat} [zGh] (P : zP d) (j227 : zK d) (hj227 : zSim X_X5_makeModulars 5 P 227 j227) : zSim X_X5_makeModulars 5 P 226 (bX5_makeModulars_226 P j227) := by
  unfold bX5_makeModulars_226
  refine sm_iastore (pc := 226) dX5_makeModulars_226 ?_
  exact hj227
noncomputable def cX5_makeModulars_217 {d : Nat} (P : zP d) (j226 : zK d) : zK d := (xgfR 23 12 (xild 5 (xaal (xild 7 (xald1 0 j226)))))
set_option maxRecDepth 100000 in
set_option maxHeartbeats 4000000 in
theorem scX5_makeModulars_217 {d : Nat} [zGh] (P : zP d) (j226 : zK d) (hj226 : zSim X_X5_makeModulars 5 P 226 j226) : zSim X_X5_makeModulars 5 P 217 (cX5_makeModulars_217 P j226) := by
  unfold cX5_makeModulars_217
  refine gf_X5_129 (pc := 217) rfl dX5_makeModulars_217 ?_
  refine sm_iload (pc := 220) (n := 5) dX5_makeModulars_220 ?_
  refine sm_aaload (pc := 222) dX5_makeModulars_222 ?_
  refine sm_iload (pc := 223) (n := 7) dX5_makeModulars_223 ?_
  refine sm_iaload (pc := 225) dX5_makeModulars_225 ?_
  exact hj226
noncomputable def cX5_makeModulars_205 {d : Nat} (P : zP d) (j226 : zK d) : zK d := (xald 4 (xcV 21 3 0 0 f_X5_sumOfRoots j226))
set_option maxRecDepth 100000 in
set_option maxHeartbeats 4000000 in
theorem scX5_makeModulars_205 {d : Nat} [zGh] (P : zP d) (j226 : zK d) (hj226 : zSim X_X5_makeModulars 5 P 226 j226) : zSim X_X5_makeModulars 5 P 205 (cX5_makeModulars_205 P j226) := by
  unfold cX5_makeModulars_205
  refine sm_aload (pc := 205) (n := 4) dX5_makeModulars_205 ?_
  refine sm_cV (pc := 207) (ci := 5) (n := 3) (mc := 0) (ms := 0) rfl m_X5_sumOfRoots (cr_X5_125 (X := X_X5_makeModulars) (fr := 5) (frc := 2) (pc := 207) (mc := 0) (ms := 0) rfl (by decide) dX5_makeModulars_207) ?_
  refine sm_goto (pc := 210) (tgt := 226) dX5_makeModulars_210 (by decide) ?_
  exact hj226
noncomputable def lX5_makeModulars_156 {d : Nat} (P : zP d) (j233 : zK d) (r156 : zK d) : zK d := (xild 7 (xald 0 (xgfR 21 0 (xgfI 23 1 (xcmp tge j233 (xald 0 (xgfR 21 4 (xild 7 (xald1 1 (xjoin (bX5_makeModulars_227 P r156) (fun j227 => (xif0 t0eq j227 (xald 0 (xgfR 21 6 (xild 5 (xaal (xild 7 (xald 0 (xgfR 21 5 (xild 5 (xald1 0 (xald 6 (xgfI 20 5 (xjoin (bX5_makeModulars_226 P j227) (fun j226 => (xcmp tge (xald 0 (xgfR 21 0 (cX5_makeModulars_217 P j226))) (xald 0 (xild 7 (cX5_makeModulars_205 P j226)))))))))))))))))))))))))))))
set_option maxRecDepth 100000 in
set_option maxHeartbeats 4000000 in
theorem slX5_makeModulars_156 {d : Nat} [zGh] (P : zP d) (j233 : zK d) (r156 : zK d) (hj233 : zSim X_X5_makeModulars 5 P 233 j233) (hr156 : zSim X_X5_makeModulars 5 P 156 r156) : zSim X_X5_makeModulars 5 P 156 (lX5_makeModulars_156 P j233 r156) := by
  unfold lX5_makeModulars_156
  refine sm_iload (pc := 156) (n := 7) dX5_makeModulars_156 ?_
  refine sm_aload_n (pc := 158) (n := 0) dX5_makeModulars_158 rfl ?_
  refine gf_X5_9 (pc := 159) rfl dX5_makeModulars_159 ?_
  refine gf_X5_19 (pc := 162) rfl dX5_makeModulars_162 ?_
  refine sm_icmp_ge (pc := 165) (tgt := 233) dX5_makeModulars_165 (by decide) ?_ ?_
  · skip
    exact hj233
  · skip
    refine sm_aload_n (pc := 168) (n := 0) dX5_makeModulars_168 rfl ?_
    refine gf_X5_28 (pc := 169) rfl dX5_makeModulars_169 ?_
    refine sm_iload (pc := 172) (n := 7) dX5_makeModulars_172 ?_
    refine sm_baload (pc := 174) dX5_makeModulars_174 ?_
    refine sm_join (pc := 175) (pc' := 227) (sbX5_makeModulars_227 P r156 hr156) (fun j227 hj227 => ?_)
    refine sm_if_eq (pc := 175) (tgt := 227) dX5_makeModulars_175 (by decide) ?_ ?_
    · skip
      exact hj227
    · skip
      refine sm_aload_n (pc := 178) (n := 0) dX5_makeModulars_178 rfl ?_
      refine gf_X5_40 (pc := 179) rfl dX5_makeModulars_179 ?_
      refine sm_iload (pc := 182) (n := 5) dX5_makeModulars_182 ?_
      refine sm_aaload (pc := 184) dX5_makeModulars_184 ?_
      refine sm_iload (pc := 185) (n := 7) dX5_makeModulars_185 ?_
      refine sm_aload_n (pc := 187) (n := 0) dX5_makeModulars_187 rfl ?_
      refine gf_X5_35 (pc := 188) rfl dX5_makeModulars_188 ?_
      refine sm_iload (pc := 191) (n := 5) dX5_makeModulars_191 ?_
      refine sm_iaload (pc := 193) dX5_makeModulars_193 ?_
      refine sm_aload (pc := 194) (n := 6) dX5_makeModulars_194 ?_
      refine gf_X5_96 (pc := 196) rfl dX5_makeModulars_196 ?_
      refine sm_join (pc := 199) (pc' := 226) (sbX5_makeModulars_226 P j227 hj227) (fun j226 hj226 => ?_)
      refine sm_icmp_ge (pc := 199) (tgt := 213) dX5_makeModulars_199 (by decide) ?_ ?_
      · skip
        refine sm_aload_n (pc := 213) (n := 0) dX5_makeModulars_213 rfl ?_
        refine gf_X5_9 (pc := 214) rfl dX5_makeModulars_214 ?_
        exact scX5_makeModulars_217 P j226 hj226
      · skip
        refine sm_aload_n (pc := 202) (n := 0) dX5_makeModulars_202 rfl ?_
        refine sm_iload (pc := 203) (n := 7) dX5_makeModulars_203 ?_
        exact scX5_makeModulars_205 P j226 hj226
noncomputable def bX5_makeModulars_153 {d : Nat} (P : zP d) (j233 : zK d) : zK d := (xpI 0 (xist 7 (xloop (fun r156 => (lX5_makeModulars_156 P j233 r156)) 100000)))
set_option maxRecDepth 100000 in
set_option maxHeartbeats 4000000 in
theorem sbX5_makeModulars_153 {d : Nat} [zGh] (P : zP d) (j233 : zK d) (hj233 : zSim X_X5_makeModulars 5 P 233 j233) : zSim X_X5_makeModulars 5 P 153 (bX5_makeModulars_153 P j233) := by
  unfold bX5_makeModulars_153
  refine sm_iconst (pc := 153) dX5_makeModulars_153 zc_i_0 ?_
  refine sm_istore (pc := 154) (n := 7) dX5_makeModulars_154 ?_
  exact sm_loop (fun r156 hr156 => slX5_makeModulars_156 P j233 r156 hj233 hr156) _
noncomputable def cX5_makeModulars_122 {d : Nat} (P : zP d) (r73 : zK d) : zK d := (xjoin (bX5_makeModulars_233 P r73) (fun j233 => (xif0 t0eq j233 (xald 0 (xgfR 21 5 (xild 5 (xald1 0 (xald 6 (xgfI 20 5 (xjoin (bX5_makeModulars_153 P j233) (fun j153 => (xcmp tge j153 (xald 0 (xild 5 (xald 3 (xald 2 (xald 4 (xcV 21 5 0 0 f_X5_makeFixed j153))))))))))))))))))
set_option maxRecDepth 100000 in
set_option maxHeartbeats 4000000 in
theorem scX5_makeModulars_122 {d : Nat} [zGh] (P : zP d) (r73 : zK d) (hr73 : zSim X_X5_makeModulars 5 P 73 r73) : zSim X_X5_makeModulars 5 P 122 (cX5_makeModulars_122 P r73) := by
  unfold cX5_makeModulars_122
  refine sm_join (pc := 122) (pc' := 233) (sbX5_makeModulars_233 P r73 hr73) (fun j233 hj233 => ?_)
  refine sm_if_ne (pc := 122) (tgt := 128) dX5_makeModulars_122 (by decide) ?_ ?_
  · skip
    refine sm_aload_n (pc := 128) (n := 0) dX5_makeModulars_128 rfl ?_
    refine gf_X5_35 (pc := 129) rfl dX5_makeModulars_129 ?_
    refine sm_iload (pc := 132) (n := 5) dX5_makeModulars_132 ?_
    refine sm_iaload (pc := 134) dX5_makeModulars_134 ?_
    refine sm_aload (pc := 135) (n := 6) dX5_makeModulars_135 ?_
    refine gf_X5_96 (pc := 137) rfl dX5_makeModulars_137 ?_
    refine sm_join (pc := 140) (pc' := 153) (sbX5_makeModulars_153 P j233 hj233) (fun j153 hj153 => ?_)
    refine sm_icmp_ge (pc := 140) (tgt := 153) dX5_makeModulars_140 (by decide) ?_ ?_
    · skip
      exact hj153
    · skip
      refine sm_aload_n (pc := 143) (n := 0) dX5_makeModulars_143 rfl ?_
      refine sm_iload (pc := 144) (n := 5) dX5_makeModulars_144 ?_
      refine sm_aload_n (pc := 146) (n := 3) dX5_makeModulars_146 rfl ?_
      refine sm_aload_n (pc := 147) (n := 2) dX5_makeModulars_147 rfl ?_
      refine sm_aload (pc := 148) (n := 4) dX5_makeModulars_148 ?_
      refine sm_cV (pc := 150) (ci := 5) (n := 5) (mc := 0) (ms := 0) rfl m_X5_makeFixed (cr_X5_121 (X := X_X5_makeModulars) (fr := 5) (frc := 4) (pc := 150) (mc := 0) (ms := 0) rfl (by decide) dX5_makeModulars_150) ?_
      exact hj153
  · skip
    refine sm_goto (pc := 125) (tgt := 233) dX5_makeModulars_125 (by decide) ?_
    exact hj233
noncomputable def lX5_makeModulars_73 {d : Nat} (P : zP d) (r73 : zK d) : zK d := (xild 5 (xald 0 (xgfR 21 0 (xgfI 23 1 (xcmp tge (xvret P) (xald 0 (xgfR 21 0 (xgfR 23 3 (xild 5 (xaal (xast 6 (xald 0 (xgfR 21 5 (xild 5 (xald 6 (xald 6 (xgfR 20 7 (xpN (xald 2 (xcS 4 0 0 f_X5_rankOfDifference (xast1 0 (fun v => v) (xald 0 (xild 5 (xcV 21 2 0 0 f_X5_isRegular (cX5_makeModulars_122 P r73)))))))))))))))))))))))))
set_option maxRecDepth 100000 in
set_option maxHeartbeats 4000000 in
theorem slX5_makeModulars_73 {d : Nat} [zGh] (P : zP d) (r73 : zK d) (hr73 : zSim X_X5_makeModulars 5 P 73 r73) : zSim X_X5_makeModulars 5 P 73 (lX5_makeModulars_73 P r73) := by
  unfold lX5_makeModulars_73
  refine sm_iload (pc := 73) (n := 5) dX5_makeModulars_73 ?_
  refine sm_aload_n (pc := 75) (n := 0) dX5_makeModulars_75 rfl ?_
  refine gf_X5_9 (pc := 76) rfl dX5_makeModulars_76 ?_
  refine gf_X5_19 (pc := 79) rfl dX5_makeModulars_79 ?_
  refine sm_icmp_ge (pc := 82) (tgt := 239) dX5_makeModulars_82 (by decide) ?_ ?_
  · skip
    exact sm_vreturn (pc := 239) dX5_makeModulars_239 rfl
  · skip
    refine sm_aload_n (pc := 85) (n := 0) dX5_makeModulars_85 rfl ?_
    refine gf_X5_9 (pc := 86) rfl dX5_makeModulars_86 ?_
    refine gf_X5_80 (pc := 89) rfl dX5_makeModulars_89 ?_
    refine sm_iload (pc := 92) (n := 5) dX5_makeModulars_92 ?_
    refine sm_aaload (pc := 94) dX5_makeModulars_94 ?_
    refine sm_astore (pc := 95) (n := 6) dX5_makeModulars_95 ?_
    refine sm_aload_n (pc := 97) (n := 0) dX5_makeModulars_97 rfl ?_
    refine gf_X5_35 (pc := 98) rfl dX5_makeModulars_98 ?_
    refine sm_iload (pc := 101) (n := 5) dX5_makeModulars_101 ?_
    refine sm_aload (pc := 103) (n := 6) dX5_makeModulars_103 ?_
    refine sm_aload (pc := 105) (n := 6) dX5_makeModulars_105 ?_
    refine gf_X5_110 (pc := 107) rfl dX5_makeModulars_107 ?_
    refine sm_null (pc := 110) dX5_makeModulars_110 ?_
    refine sm_aload_n (pc := 111) (n := 2) dX5_makeModulars_111 rfl ?_
    refine sm_cS (pc := 112) (n := 4) (mc := 0) (ms := 0) m_X5_rankOfDifference (cr_X5_113 (X := X_X5_makeModulars) (fr := 5) (frc := 3) (pc := 112) (mc := 0) (ms := 0) rfl (by decide) dX5_makeModulars_112) ?_
    refine sm_iastore (pc := 115) dX5_makeModulars_115 ?_
    refine sm_aload_n (pc := 116) (n := 0) dX5_makeModulars_116 rfl ?_
    refine sm_iload (pc := 117) (n := 5) dX5_makeModulars_117 ?_
    refine sm_cV (pc := 119) (ci := 5) (n := 2) (mc := 0) (ms := 0) rfl m_X5_isRegular (cr_X5_117 (X := X_X5_makeModulars) (fr := 5) (frc := 1) (pc := 119) (mc := 0) (ms := 0) rfl (by decide) dX5_makeModulars_119) ?_
    exact scX5_makeModulars_122 P r73 hr73
noncomputable def lX5_makeModulars_4 {d : Nat} (P : zP d) (r4 : zK d) : zK d := (xild 2 (xald 0 (xgfR 21 0 (xgfI 23 1 (xcmp tge (xnew 19 2 (xdup (xald 0 (xgfI 21 1 (xild 1 (xild 1 (xcV 19 4 20 300 f_X3_init (xast 2 (xild 1 (xild 1 (xmnaD 3 0 (xast 3 (xald 0 (xgfR 21 0 (xgfI 23 1 (xnwa 0 (xast 4 (xpI 0 (xist 5 (xloop (fun r73 => (lX5_makeModulars_73 P r73)) 100000)))))))))))))))))))) (xild 1 (xald 0 (xgfR 21 0 (xgfR 23 3 (xild 2 (xaal (xgfI 20 5 (xmm zmax (xist 1 (xinc 2 1 r4)))))))))))))))
set_option maxRecDepth 100000 in
set_option maxHeartbeats 4000000 in
theorem slX5_makeModulars_4 {d : Nat} [zGh] (P : zP d) (r4 : zK d) (hr4 : zSim X_X5_makeModulars 5 P 4 r4) : zSim X_X5_makeModulars 5 P 4 (lX5_makeModulars_4 P r4) := by
  unfold lX5_makeModulars_4
  refine sm_iload_n (pc := 4) (n := 2) dX5_makeModulars_4 rfl ?_
  refine sm_aload_n (pc := 5) (n := 0) dX5_makeModulars_5 rfl ?_
  refine gf_X5_9 (pc := 6) rfl dX5_makeModulars_6 ?_
  refine gf_X5_19 (pc := 9) rfl dX5_makeModulars_9 ?_
  refine sm_icmp_ge (pc := 12) (tgt := 38) dX5_makeModulars_12 (by decide) ?_ ?_
  · skip
    refine sm_new (pc := 38) (ci := 3) (C := RX3) (T := TX3) (N := 2) (ty0 := tyX3) rfl rfl (by decide) (by decide) inz3 tyX3_ok rfl wd_345 wd_346 wd_10 dX5_makeModulars_38 ?_
    refine sm_dup (pc := 41) dX5_makeModulars_41 ?_
    refine sm_aload_n (pc := 42) (n := 0) dX5_makeModulars_42 rfl ?_
    refine gf_X5_15 (pc := 43) rfl dX5_makeModulars_43 ?_
    refine sm_iload_n (pc := 46) (n := 1) dX5_makeModulars_46 rfl ?_
    refine sm_iload_n (pc := 47) (n := 1) dX5_makeModulars_47 rfl ?_
    refine sm_cV (pc := 48) (ci := 3) (n := 4) (mc := 20) (ms := 300) rfl m_X3_init (cr_X5_107 (X := X_X5_makeModulars) (fr := 5) (frc := 1) (pc := 48) (mc := 20) (ms := 300) rfl (by decide) dX5_makeModulars_48) ?_
    refine sm_astore_n (pc := 51) (n := 2) dX5_makeModulars_51 rfl ?_
    refine sm_iload_n (pc := 52) (n := 1) dX5_makeModulars_52 rfl ?_
    refine sm_iload_n (pc := 53) (n := 1) dX5_makeModulars_53 rfl ?_
    refine sm_mnaDI (pc := 54) wd_339 wd_46 dX5_makeModulars_54 ?_
    refine sm_astore_n (pc := 58) (n := 3) dX5_makeModulars_58 rfl ?_
    refine sm_aload_n (pc := 59) (n := 0) dX5_makeModulars_59 rfl ?_
    refine gf_X5_9 (pc := 60) rfl dX5_makeModulars_60 ?_
    refine gf_X5_19 (pc := 63) rfl dX5_makeModulars_63 ?_
    refine sm_newI (pc := 66) dX5_makeModulars_66 wd_46 ?_
    refine sm_astore (pc := 68) (n := 4) dX5_makeModulars_68 ?_
    refine sm_iconst (pc := 70) dX5_makeModulars_70 zc_i_0 ?_
    refine sm_istore (pc := 71) (n := 5) dX5_makeModulars_71 ?_
    exact sm_loop (fun r73 hr73 => slX5_makeModulars_73 P r73 hr73) _
  · skip
    refine sm_iload_n (pc := 15) (n := 1) dX5_makeModulars_15 rfl ?_
    refine sm_aload_n (pc := 16) (n := 0) dX5_makeModulars_16 rfl ?_
    refine gf_X5_9 (pc := 17) rfl dX5_makeModulars_17 ?_
    refine gf_X5_80 (pc := 20) rfl dX5_makeModulars_20 ?_
    refine sm_iload_n (pc := 23) (n := 2) dX5_makeModulars_23 rfl ?_
    refine sm_aaload (pc := 24) dX5_makeModulars_24 ?_
    refine gf_X5_96 (pc := 25) rfl dX5_makeModulars_25 ?_
    refine sm_mmax (pc := 28) wd_344 wd_104 wd_6 wd_105 (by decide) dX5_makeModulars_28 ?_
    refine sm_istore_n (pc := 31) (n := 1) dX5_makeModulars_31 rfl ?_
    refine sm_iinc (pc := 32) (n := 2) dX5_makeModulars_32 zc_i_1 ?_
    refine sm_goto (pc := 35) (tgt := 4) dX5_makeModulars_35 (by decide) ?_
    exact hr4
noncomputable def b_X5_makeModulars {d : Nat} (P : zP d) : zK d := (xpI 1 (xist 1 (xpI 0 (xist 2 (xloop (fun r4 => (lX5_makeModulars_4 P r4)) 100000)))))
set_option maxRecDepth 100000 in
set_option maxHeartbeats 4000000 in
theorem s_X5_makeModulars {d : Nat} [zGh] (P : zP d) : zSim X_X5_makeModulars 5 P 0 (b_X5_makeModulars P) := by
  unfold b_X5_makeModulars
  refine sm_iconst (pc := 0) dX5_makeModulars_0 zc_i_1 ?_
  refine sm_istore_n (pc := 1) (n := 1) dX5_makeModulars_1 rfl ?_
  refine sm_iconst (pc := 2) dX5_makeModulars_2 zc_i_0 ?_
  refine sm_istore_n (pc := 3) (n := 2) dX5_makeModulars_3 rfl ?_
  exact sm_loop (fun r4 hr4 => slX5_makeModulars_4 P r4 hr4) _
noncomputable def f_X5_makeModulars {d : Nat} : List zV → zH d → zP d → Bool := zfn 8 b_X5_makeModulars
theorem m_X5_makeModulars {d : Nat} : zMet (d := d) X_X5_makeModulars yX5_makeModulars 5 f_X5_makeModulars := zmet_mk (X := X_X5_makeModulars) (by decide) rfl rfl s_X5_makeModulars

abbrev X_X5_makeDecompositions : zM := (RX5, cX5_makeDecompositions, 6, none, "makeDecompositions")
noncomputable def bX5_makeDecompositions_209 {d : Nat} (P : zP d) (r149 : zK d) : zK d := (xinc 4 1 r149)
set_option maxRecDepth 100000 in
set_option maxHeartbeats 4000000 in
theorem sbX5_makeDecompositions_209 {d : Nat} [zGh] (P : zP d) (r149 : zK d) (hr149 : zSim X_X5_makeDecompositions 3 P 149 r149) : zSim X_X5_makeDecompositions 3 P 209 (bX5_makeDecompositions_209 P r149) := by
  unfold bX5_makeDecompositions_209
  refine sm_iinc (pc := 209) (n := 4) dX5_makeDecompositions_209 zc_i_1 ?_
  refine sm_goto (pc := 212) (tgt := 149) dX5_makeDecompositions_212 (by decide) ?_
  exact hr149
noncomputable def lX5_makeDecompositions_167 {d : Nat} (P : zP d) (j209 : zK d) (r167 : zK d) : zK d := (xild 5 (xild 1 (xcmp tge j209 (xald 0 (xgfR 21 7 (xild 5 (xaal (xild 4 (xald 2 (xgfR 19 1 (xald 0 (xgfR 21 2 (xild 4 (xald1 0 (xaal (xald 0 (xgfI 21 3 (xild 5 (xbin zadd (xald1 0 (xast1 0 (fun v => v) (xinc 5 1 r167))))))))))))))))))))))
set_option maxRecDepth 100000 in
set_option maxHeartbeats 4000000 in
theorem slX5_makeDecompositions_167 {d : Nat} [zGh] (P : zP d) (j209 : zK d) (r167 : zK d) (hj209 : zSim X_X5_makeDecompositions 3 P 209 j209) (hr167 : zSim X_X5_makeDecompositions 3 P 167 r167) : zSim X_X5_makeDecompositions 3 P 167 (lX5_makeDecompositions_167 P j209 r167) := by
  unfold lX5_makeDecompositions_167
  refine sm_iload (pc := 167) (n := 5) dX5_makeDecompositions_167 ?_
  refine sm_iload_n (pc := 169) (n := 1) dX5_makeDecompositions_169 rfl ?_
  refine sm_icmp_ge (pc := 170) (tgt := 209) dX5_makeDecompositions_170 (by decide) ?_ ?_
  · skip
    exact hj209
  · skip
    refine sm_aload_n (pc := 173) (n := 0) dX5_makeDecompositions_173 rfl ?_
    refine gf_X5_46 (pc := 174) rfl dX5_makeDecompositions_174 ?_
    refine sm_iload (pc := 177) (n := 5) dX5_makeDecompositions_177 ?_
    refine sm_aaload (pc := 179) dX5_makeDecompositions_179 ?_
    refine sm_iload (pc := 180) (n := 4) dX5_makeDecompositions_180 ?_
    refine sm_aload_n (pc := 182) (n := 2) dX5_makeDecompositions_182 rfl ?_
    refine gf_X5_165 (pc := 183) rfl dX5_makeDecompositions_183 ?_
    refine sm_aload_n (pc := 186) (n := 0) dX5_makeDecompositions_186 rfl ?_
    refine gf_X5_24 (pc := 187) rfl dX5_makeDecompositions_187 ?_
    refine sm_iload (pc := 190) (n := 4) dX5_makeDecompositions_190 ?_
    refine sm_iaload (pc := 192) dX5_makeDecompositions_192 ?_
    refine sm_aaload (pc := 193) dX5_makeDecompositions_193 ?_
    refine sm_aload_n (pc := 194) (n := 0) dX5_makeDecompositions_194 rfl ?_
    refine gf_X5_89 (pc := 195) rfl dX5_makeDecompositions_195 ?_
    refine sm_iload (pc := 198) (n := 5) dX5_makeDecompositions_198 ?_
    refine sm_iadd (pc := 200) dX5_makeDecompositions_200 ?_
    refine sm_iaload (pc := 201) dX5_makeDecompositions_201 ?_
    refine sm_iastore (pc := 202) dX5_makeDecompositions_202 ?_
    refine sm_iinc (pc := 203) (n := 5) dX5_makeDecompositions_203 zc_i_1 ?_
    refine sm_goto (pc := 206) (tgt := 167) dX5_makeDecompositions_206 (by decide) ?_
    exact hr167
noncomputable def lX5_makeDecompositions_149 {d : Nat} (P : zP d) (r149 : zK d) : zK d := (xild 4 (xild 1 (xcmp tge (xvret P) (xald 0 (xild 4 (xcV 21 2 0 0 f_X5_isRegular (xjoin (bX5_makeDecompositions_209 P r149) (fun j209 => (xif0 t0eq j209 (xpI 0 (xist 5 (xloop (fun r167 => (lX5_makeDecompositions_167 P j209 r167)) 100000))))))))))))
set_option maxRecDepth 100000 in
set_option maxHeartbeats 4000000 in
theorem slX5_makeDecompositions_149 {d : Nat} [zGh] (P : zP d) (r149 : zK d) (hr149 : zSim X_X5_makeDecompositions 3 P 149 r149) : zSim X_X5_makeDecompositions 3 P 149 (lX5_makeDecompositions_149 P r149) := by
  unfold lX5_makeDecompositions_149
  refine sm_iload (pc := 149) (n := 4) dX5_makeDecompositions_149 ?_
  refine sm_iload_n (pc := 151) (n := 1) dX5_makeDecompositions_151 rfl ?_
  refine sm_icmp_ge (pc := 152) (tgt := 215) dX5_makeDecompositions_152 (by decide) ?_ ?_
  · skip
    exact sm_vreturn (pc := 215) dX5_makeDecompositions_215 rfl
  · skip
    refine sm_aload_n (pc := 155) (n := 0) dX5_makeDecompositions_155 rfl ?_
    refine sm_iload (pc := 156) (n := 4) dX5_makeDecompositions_156 ?_
    refine sm_cV (pc := 158) (ci := 5) (n := 2) (mc := 0) (ms := 0) rfl m_X5_isRegular (cr_X5_117 (X := X_X5_makeDecompositions) (fr := 3) (frc := 1) (pc := 158) (mc := 0) (ms := 0) rfl (by decide) dX5_makeDecompositions_158) ?_
    refine sm_join (pc := 161) (pc' := 209) (sbX5_makeDecompositions_209 P r149 hr149) (fun j209 hj209 => ?_)
    refine sm_if_eq (pc := 161) (tgt := 209) dX5_makeDecompositions_161 (by decide) ?_ ?_
    · skip
      exact hj209
    · skip
      refine sm_iconst (pc := 164) dX5_makeDecompositions_164 zc_i_0 ?_
      refine sm_istore (pc := 165) (n := 5) dX5_makeDecompositions_165 ?_
      exact sm_loop (fun r167 hr167 => slX5_makeDecompositions_167 P j209 r167 hj209 hr167) _
noncomputable def bX5_makeDecompositions_124 {d : Nat} (P : zP d) (r31 : zK d) : zK d := (xinc 4 1 r31)
set_option maxRecDepth 100000 in
set_option maxHeartbeats 4000000 in
theorem sbX5_makeDecompositions_124 {d : Nat} [zGh] (P : zP d) (r31 : zK d) (hr31 : zSim X_X5_makeDecompositions 3 P 31 r31) : zSim X_X5_makeDecompositions 3 P 124 (bX5_makeDecompositions_124 P r31) := by
  unfold bX5_makeDecompositions_124
  refine sm_iinc (pc := 124) (n := 4) dX5_makeDecompositions_124 zc_i_1 ?_
  refine sm_goto (pc := 127) (tgt := 31) dX5_makeDecompositions_127 (by decide) ?_
  exact hr31
noncomputable def bX5_makeDecompositions_115 {d : Nat} (P : zP d) (r53 : zK d) : zK d := (xinc 5 1 r53)
set_option maxRecDepth 100000 in
set_option maxHeartbeats 4000000 in
theorem sbX5_makeDecompositions_115 {d : Nat} [zGh] (P : zP d) (r53 : zK d) (hr53 : zSim X_X5_makeDecompositions 3 P 53 r53) : zSim X_X5_makeDecompositions 3 P 115 (bX5_makeDecompositions_115 P r53) := by
  unfold bX5_makeDecompositions_115
  refine sm_iinc (pc := 115) (n := 5) dX5_makeDecompositions_115 zc_i_1 ?_
  refine sm_goto (pc := 118) (tgt := 53) dX5_makeDecompositions_118 (by decide) ?_
  exact hr53
noncomputable def cX5_makeDecompositions_96 {d : Nat} (P : zP d) (j115 : zK d) : zK d := (xgfR 21 2 (xild 5 (xald1 0 (xald 0 (xgfR 21 6 (xild 5 (xaal (xild 4 (xald1 0 (xcV 19 4 0 0 f_X3_set j115))))))))))
set_option maxRecDepth 100000 in
set_option maxHeartbeats 4000000 in
theorem scX5_makeDecompositions_96 {d : Nat} [zGh] (P : zP d) (j115 : zK d) (hj115 : zSim X_X5_makeDecompositions 3 P 115 j115) : zSim X_X5_makeDecompositions 3 P 96 (cX5_makeDecompositions_96 P j115) := by
  unfold cX5_makeDecompositions_96
  refine gf_X5_24 (pc := 96) rfl dX5_makeDecompositions_96 ?_
  refine sm_iload (pc := 99) (n := 5) dX5_makeDecompositions_99 ?_
  refine sm_iaload (pc := 101) dX5_makeDecompositions_101 ?_
  refine sm_aload_n (pc := 102) (n := 0) dX5_makeDecompositions_102 rfl ?_
  refine gf_X5_40 (pc := 103) rfl dX5_makeDecompositions_103 ?_
  refine sm_iload (pc := 106) (n := 5) dX5_makeDecompositions_106 ?_
  refine sm_aaload (pc := 108) dX5_makeDecompositions_108 ?_
  refine sm_iload (pc := 109) (n := 4) dX5_makeDecompositions_109 ?_
  refine sm_iaload (pc := 111) dX5_makeDecompositions_111 ?_
  refine sm_cV (pc := 112) (ci := 3) (n := 4) (mc := 0) (ms := 0) rfl m_X3_set (cr_X5_132 (X := X_X5_makeDecompositions) (fr := 3) (frc := 1) (pc := 112) (mc := 0) (ms := 0) rfl (by decide) dX5_makeDecompositions_112) ?_
  exact hj115
noncomputable def lX5_makeDecompositions_53 {d : Nat} (P : zP d) (j124 : zK d) (r53 : zK d) : zK d := (xild 5 (xild 1 (xcmp tge (xinc 3 1 j124) (xald 2 (xild 3 (xald 0 (xgfI 21 3 (xild 5 (xbin zadd (xald 0 (xgfR 21 0 (xgfR 23 12 (xild 5 (xaal (xild 4 (xald1 0 (xcV 19 4 0 0 f_X3_set (xald 0 (xild 5 (xcV 21 2 0 0 f_X5_isRegular (xjoin (bX5_makeDecompositions_115 P r53) (fun j115 => (xif0 t0eq j115 (xald 2 (xild 3 (xald 0 (cX5_makeDecompositions_96 P j115)))))))))))))))))))))))))))
set_option maxRecDepth 100000 in
set_option maxHeartbeats 4000000 in
theorem slX5_makeDecompositions_53 {d : Nat} [zGh] (P : zP d) (j124 : zK d) (r53 : zK d) (hj124 : zSim X_X5_makeDecompositions 3 P 124 j124) (hr53 : zSim X_X5_makeDecompositions 3 P 53 r53) : zSim X_X5_makeDecompositions 3 P 53 (lX5_makeDecompositions_53 P j124 r53) := by
  unfold lX5_makeDecompositions_53
  refine sm_iload (pc := 53) (n := 5) dX5_makeDecompositions_53 ?_
  refine sm_iload_n (pc := 55) (n := 1) dX5_makeDecompositions_55 rfl ?_
  refine sm_icmp_ge (pc := 56) (tgt := 121) dX5_makeDecompositions_56 (by decide) ?_ ?_
  · skip
    refine sm_iinc (pc := 121) (n := 3) dX5_makeDecompositions_121 zc_i_1 ?_
    exact hj124
  · skip
    refine sm_aload_n (pc := 59) (n := 2) dX5_makeDecompositions_59 rfl ?_
    refine sm_iload_n (pc := 60) (n := 3) dX5_makeDecompositions_60 rfl ?_
    refine sm_aload_n (pc := 61) (n := 0) dX5_makeDecompositions_61 rfl ?_
    refine gf_X5_89 (pc := 62) rfl dX5_makeDecompositions_62 ?_
    refine sm_iload (pc := 65) (n := 5) dX5_makeDecompositions_65 ?_
    refine sm_iadd (pc := 67) dX5_makeDecompositions_67 ?_
    refine sm_aload_n (pc := 68) (n := 0) dX5_makeDecompositions_68 rfl ?_
    refine gf_X5_9 (pc := 69) rfl dX5_makeDecompositions_69 ?_
    refine gf_X5_129 (pc := 72) rfl dX5_makeDecompositions_72 ?_
    refine sm_iload (pc := 75) (n := 5) dX5_makeDecompositions_75 ?_
    refine sm_aaload (pc := 77) dX5_makeDecompositions_77 ?_
    refine sm_iload (pc := 78) (n := 4) dX5_makeDecompositions_78 ?_
    refine sm_iaload (pc := 80) dX5_makeDecompositions_80 ?_
    refine sm_cV (pc := 81) (ci := 3) (n := 4) (mc := 0) (ms := 0) rfl m_X3_set (cr_X5_132 (X := X_X5_makeDecompositions) (fr := 3) (frc := 1) (pc := 81) (mc := 0) (ms := 0) rfl (by decide) dX5_makeDecompositions_81) ?_
    refine sm_aload_n (pc := 84) (n := 0) dX5_makeDecompositions_84 rfl ?_
    refine sm_iload (pc := 85) (n := 5) dX5_makeDecompositions_85 ?_
    refine sm_cV (pc := 87) (ci := 5) (n := 2) (mc := 0) (ms := 0) rfl m_X5_isRegular (cr_X5_117 (X := X_X5_makeDecompositions) (fr := 3) (frc := 1) (pc := 87) (mc := 0) (ms := 0) rfl (by decide) dX5_makeDecompositions_87) ?_
    refine sm_join (pc := 90) (pc' := 115) (sbX5_makeDecompositions_115 P r53 hr53) (fun j115 hj115 => ?_)
    refine sm_if_eq (pc := 90) (tgt := 115) dX5_makeDecompositions_90 (by decide) ?_ ?_
    · skip
      exact hj115
    · skip
      refine sm_aload_n (pc := 93) (n := 2) dX5_makeDecompositions_93 rfl ?_
      refine sm_iload_n (pc := 94) (n := 3) dX5_makeDecompositions_94 rfl ?_
      refine sm_aload_n (pc := 95) (n := 0) dX5_makeDecompositions_95 rfl ?_
      exact scX5_makeDecompositions_96 P j115 hj115
noncomputable def lX5_makeDecompositions_31 {d : Nat} (P : zP d) (r31 : zK d) : zK d := (xild 4 (xild 1 (xcmp tge (xald 2 (xild 3 (xald 0 (xgfI 21 3 (xald 0 (xgfI 21 3 (xild 1 (xbin zadd (xcV 19 4 0 0 f_X3_reduce (xpop (xpI 0 (xist 4 (xloop (fun r149 => (lX5_makeDecompositions_149 P r149)) 100000))))))))))))) (xald 0 (xgfR 21 4 (xild 4 (xald1 1 (xjoin (bX5_makeDecompositions_124 P r31) (fun j124 => (xif0 t0eq j124 (xpI 0 (xist 5 (xloop (fun r53 => (lX5_makeDecompositions_53 P j124 r53)) 100000)))))))))))))
set_option maxRecDepth 100000 in
set_option maxHeartbeats 4000000 in
theorem slX5_makeDecompositions_31 {d : Nat} [zGh] (P : zP d) (r31 : zK d) (hr31 : zSim X_X5_makeDecompositions 3 P 31 r31) : zSim X_X5_makeDecompositions 3 P 31 (lX5_makeDecompositions_31 P r31) := by
  unfold lX5_makeDecompositions_31
  refine sm_iload (pc := 31) (n := 4) dX5_makeDecompositions_31 ?_
  refine sm_iload_n (pc := 33) (n := 1) dX5_makeDecompositions_33 rfl ?_
  refine sm_icmp_ge (pc := 34) (tgt := 130) dX5_makeDecompositions_34 (by decide) ?_ ?_
  · skip
    refine sm_aload_n (pc := 130) (n := 2) dX5_makeDecompositions_130 rfl ?_
    refine sm_iload_n (pc := 131) (n := 3) dX5_makeDecompositions_131 rfl ?_
    refine sm_aload_n (pc := 132) (n := 0) dX5_makeDecompositions_132 rfl ?_
    refine gf_X5_89 (pc := 133) rfl dX5_makeDecompositions_133 ?_
    refine sm_aload_n (pc := 136) (n := 0) dX5_makeDecompositions_136 rfl ?_
    refine gf_X5_89 (pc := 137) rfl dX5_makeDecompositions_137 ?_
    refine sm_iload_n (pc := 140) (n := 1) dX5_makeDecompositions_140 rfl ?_
    refine sm_iadd (pc := 141) dX5_makeDecompositions_141 ?_
    refine sm_cV (pc := 142) (ci := 3) (n := 4) (mc := 0) (ms := 0) rfl m_X3_reduce (cr_X5_135 (X := X_X5_makeDecompositions) (fr := 3) (frc := 2) (pc := 142) (mc := 0) (ms := 0) rfl (by decide) dX5_makeDecompositions_142) ?_
    refine sm_pop (pc := 145) dX5_makeDecompositions_145 ?_
    refine sm_iconst (pc := 146) dX5_makeDecompositions_146 zc_i_0 ?_
    refine sm_istore (pc := 147) (n := 4) dX5_makeDecompositions_147 ?_
    exact sm_loop (fun r149 hr149 => slX5_makeDecompositions_149 P r149 hr149) _
  · skip
    refine sm_aload_n (pc := 37) (n := 0) dX5_makeDecompositions_37 rfl ?_
    refine gf_X5_28 (pc := 38) rfl dX5_makeDecompositions_38 ?_
    refine sm_iload (pc := 41) (n := 4) dX5_makeDecompositions_41 ?_
    refine sm_baload (pc := 43) dX5_makeDecompositions_43 ?_
    refine sm_join (pc := 44) (pc' := 124) (sbX5_makeDecompositions_124 P r31 hr31) (fun j124 hj124 => ?_)
    refine sm_if_ne (pc := 44) (tgt := 50) dX5_makeDecompositions_44 (by decide) ?_ ?_
    · skip
      refine sm_iconst (pc := 50) dX5_makeDecompositions_50 zc_i_0 ?_
      refine sm_istore (pc := 51) (n := 5) dX5_makeDecompositions_51 ?_
      exact sm_loop (fun r53 hr53 => slX5_makeDecompositions_53 P j124 r53 hj124 hr53) _
    · skip
      refine sm_goto (pc := 47) (tgt := 124) dX5_makeDecompositions_47 (by decide) ?_
      exact hj124
noncomputable def b_X5_makeDecompositions {d : Nat} (P : zP d) : zK d := (xald 0 (xgfR 21 0 (xgfI 23 1 (xist 1 (xnew 19 2 (xdup (xpI 10007 (xild 1 (xald 0 (xgfI 21 3 (xild 1 (xbin zadd (xcV 19 4 20 300 f_X3_init (xast 2 (xpI 0 (xist 3 (xpI 0 (xist 4 (xloop (fun r31 => (lX5_makeDecompositions_31 P r31)) 100000)))))))))))))))))))
set_option maxRecDepth 100000 in
set_option maxHeartbeats 4000000 in
theorem s_X5_makeDecompositions {d : Nat} [zGh] (P : zP d) : zSim X_X5_makeDecompositions 3 P 0 (b_X5_makeDecompositions P) := by
  unfold b_X5_makeDecompositions
  refine sm_aload_n (pc := 0) (n := 0) dX5_makeDecompositions_0 rfl ?_
  refine gf_X5_9 (pc := 1) rfl dX5_makeDecompositions_1 ?_
  refine gf_X5_19 (pc := 4) rfl dX5_makeDecompositions_4 ?_
  refine sm_istore_n (pc := 7) (n := 1) dX5_makeDecompositions_7 rfl ?_
  refine sm_new (pc := 8) (ci := 3) (C := RX3) (T := TX3) (N := 2) (ty0 := tyX3) rfl rfl (by decide) (by decide) inz3 tyX3_ok rfl wd_345 wd_346 wd_10 dX5_makeDecompositions_8 ?_
  refine sm_dup (pc := 11) dX5_makeDecompositions_11 ?_
  refine sm_sipush (pc := 12) dX5_makeDecompositions_12 zc_s_10007 ?_
  refine sm_iload_n (pc := 15) (n := 1) dX5_makeDecompositions_15 rfl ?_
  refine sm_aload_n (pc := 16) (n := 0) dX5_makeDecompositions_16 rfl ?_
  refine gf_X5_89 (pc := 17) rfl dX5_makeDecompositions_17 ?_
  refine sm_iload_n (pc := 20) (n := 1) dX5_makeDecompositions_20 rfl ?_
  refine sm_iadd (pc := 21) dX5_makeDecompositions_21 ?_
  refine sm_cV (pc := 22) (ci := 3) (n := 4) (mc := 20) (ms := 300) rfl m_X3_init (cr_X5_107 (X := X_X5_makeDecompositions) (fr := 3) (frc := 1) (pc := 22) (mc := 20) (ms := 300) rfl (by decide) dX5_makeDecompositions_22) ?_
  refine sm_astore_n (pc := 25) (n := 2) dX5_makeDecompositions_25 rfl ?_
  refine sm_iconst (pc := 26) dX5_makeDecompositions_26 zc_i_0 ?_
  refine sm_istore_n (pc := 27) (n := 3) dX5_makeDecompositions_27 rfl ?_
  refine sm_iconst (pc := 28) dX5_makeDecompositions_28 zc_i_0 ?_
  refine sm_istore (pc := 29) (n := 4) dX5_makeDecompositions_29 ?_
  exact sm_loop (fun r31 hr31 => slX5_makeDecompositions_31 P r31 hr31) _
noncomputable def f_X5_makeDecompositions {d : Nat} : List zV → zH d → zP d → Bool := zfn 6 b_X5_makeDecompositions
theorem m_X5_makeDecompositions {d : Nat} : zMet (d := d) X_X5_makeDecompositions yX5_makeDecompositions 3 f_X5_makeDecompositions := zmet_mk (X := X_X5_makeDecompositions) (by decide) rfl rfl s_X5_makeDecompositions

abbrev X_X5_makeCartans : zM := (RX5, cX5_makeCartans, 4, none, "makeCartans")
noncomputable def cX5_makeCartans_64 {d : Nat} (P : zP d) (r28 : zK d) : zK d := (xbin zmul (xbin zadd (xast1 0 (fun v => v) (xinc 3 1 r28))))
set_option maxRecDepth 100000 in
set_option maxHeartbeats 4000000 in
theorem scX5_makeCartans_64 {d : Nat} [zGh] (P : zP d) (r28 : zK d) (hr28 : zSim X_X5_makeCartans 1 P 28 r28) : zSim X_X5_makeCartans 1 P 64 (cX5_makeCartans_64 P r28) := by
  unfold cX5_makeCartans_64
  refine sm_imul (pc := 64) dX5_makeCartans_64 ?_
  refine sm_iadd (pc := 65) dX5_makeCartans_65 ?_
  refine sm_iastore (pc := 66) dX5_makeCartans_66 ?_
  refine sm_iinc (pc := 67) (n := 3) dX5_makeCartans_67 zc_i_1 ?_
  refine sm_goto (pc := 70) (tgt := 28) dX5_makeCartans_70 (by decide) ?_
  exact hr28
noncomputable def lX5_makeCartans_28 {d : Nat} (P : zP d) (r15 : zK d) (r28 : zK d) : zK d := (xild 3 (xald 0 (xgfR 21 0 (xgfI 23 1 (xcmp tge (xinc 2 1 r15) (xald 0 (xgfR 21 8 (xild 2 (xaal (xild 3 (xdup2 (xald1 0 (xald 0 (xgfR 21 7 (xild 1 (xaal (xild 2 (xald1 0 (xald 0 (xgfR 21 7 (xild 1 (xaal (xild 3 (xald1 0 (cX5_makeCartans_64 P r28)))))))))))))))))))))))))
set_option maxRecDepth 100000 in
set_option maxHeartbeats 4000000 in
theorem slX5_makeCartans_28 {d : Nat} [zGh] (P : zP d) (r15 : zK d) (r28 : zK d) (hr15 : zSim X_X5_makeCartans 1 P 15 r15) (hr28 : zSim X_X5_makeCartans 1 P 28 r28) : zSim X_X5_makeCartans 1 P 28 (lX5_makeCartans_28 P r15 r28) := by
  unfold lX5_makeCartans_28
  refine sm_iload_n (pc := 28) (n := 3) dX5_makeCartans_28 rfl ?_
  refine sm_aload_n (pc := 29) (n := 0) dX5_makeCartans_29 rfl ?_
  refine gf_X5_9 (pc := 30) rfl dX5_makeCartans_30 ?_
  refine gf_X5_19 (pc := 33) rfl dX5_makeCartans_33 ?_
  refine sm_icmp_ge (pc := 36) (tgt := 73) dX5_makeCartans_36 (by decide) ?_ ?_
  · skip
    refine sm_iinc (pc := 73) (n := 2) dX5_makeCartans_73 zc_i_1 ?_
    refine sm_goto (pc := 76) (tgt := 15) dX5_makeCartans_76 (by decide) ?_
    exact hr15
  · skip
    refine sm_aload_n (pc := 39) (n := 0) dX5_makeCartans_39 rfl ?_
    refine gf_X5_52 (pc := 40) rfl dX5_makeCartans_40 ?_
    refine sm_iload_n (pc := 43) (n := 2) dX5_makeCartans_43 rfl ?_
    refine sm_aaload (pc := 44) dX5_makeCartans_44 ?_
    refine sm_iload_n (pc := 45) (n := 3) dX5_makeCartans_45 rfl ?_
    refine sm_dup2 (pc := 46) dX5_makeCartans_46 ?_
    refine sm_iaload (pc := 47) dX5_makeCartans_47 ?_
    refine sm_aload_n (pc := 48) (n := 0) dX5_makeCartans_48 rfl ?_
    refine gf_X5_46 (pc := 49) rfl dX5_makeCartans_49 ?_
    refine sm_iload_n (pc := 52) (n := 1) dX5_makeCartans_52 rfl ?_
    refine sm_aaload (pc := 53) dX5_makeCartans_53 ?_
    refine sm_iload_n (pc := 54) (n := 2) dX5_makeCartans_54 rfl ?_
    refine sm_iaload (pc := 55) dX5_makeCartans_55 ?_
    refine sm_aload_n (pc := 56) (n := 0) dX5_makeCartans_56 rfl ?_
    refine gf_X5_46 (pc := 57) rfl dX5_makeCartans_57 ?_
    refine sm_iload_n (pc := 60) (n := 1) dX5_makeCartans_60 rfl ?_
    refine sm_aaload (pc := 61) dX5_makeCartans_61 ?_
    refine sm_iload_n (pc := 62) (n := 3) dX5_makeCartans_62 rfl ?_
    refine sm_iaload (pc := 63) dX5_makeCartans_63 ?_
    exact scX5_makeCartans_64 P r28 hr28
noncomputable def lX5_makeCartans_15 {d : Nat} (P : zP d) (r15 : zK d) (r2 : zK d) : zK d := (xild 2 (xald 0 (xgfR 21 0 (xgfI 23 1 (xcmp tge (xinc 1 1 r2) (xpI 0 (xist 3 (xloop (fun r28 => (lX5_makeCartans_28 P r15 r28)) 100000))))))))
set_option maxRecDepth 100000 in
set_option maxHeartbeats 4000000 in
theorem slX5_makeCartans_15 {d : Nat} [zGh] (P : zP d) (r15 : zK d) (r2 : zK d) (hr15 : zSim X_X5_makeCartans 1 P 15 r15) (hr2 : zSim X_X5_makeCartans 1 P 2 r2) : zSim X_X5_makeCartans 1 P 15 (lX5_makeCartans_15 P r15 r2) := by
  unfold lX5_makeCartans_15
  refine sm_iload_n (pc := 15) (n := 2) dX5_makeCartans_15 rfl ?_
  refine sm_aload_n (pc := 16) (n := 0) dX5_makeCartans_16 rfl ?_
  refine gf_X5_9 (pc := 17) rfl dX5_makeCartans_17 ?_
  refine gf_X5_19 (pc := 20) rfl dX5_makeCartans_20 ?_
  refine sm_icmp_ge (pc := 23) (tgt := 79) dX5_makeCartans_23 (by decide) ?_ ?_
  · skip
    refine sm_iinc (pc := 79) (n := 1) dX5_makeCartans_79 zc_i_1 ?_
    refine sm_goto (pc := 82) (tgt := 2) dX5_makeCartans_82 (by decide) ?_
    exact hr2
  · skip
    refine sm_iconst (pc := 26) dX5_makeCartans_26 zc_i_0 ?_
    refine sm_istore_n (pc := 27) (n := 3) dX5_makeCartans_27 rfl ?_
    exact sm_loop (fun r28 hr28 => slX5_makeCartans_28 P r15 r28 hr15 hr28) _
noncomputable def lX5_makeCartans_2 {d : Nat} (P : zP d) (r2 : zK d) : zK d := (xild 1 (xald 0 (xgfR 21 0 (xgfI 23 1 (xcmp tge (xvret P) (xpI 0 (xist 2 (xloop (fun r15 => (lX5_makeCartans_15 P r15 r2)) 100000))))))))
set_option maxRecDepth 100000 in
set_option maxHeartbeats 4000000 in
theorem slX5_makeCartans_2 {d : Nat} [zGh] (P : zP d) (r2 : zK d) (hr2 : zSim X_X5_makeCartans 1 P 2 r2) : zSim X_X5_makeCartans 1 P 2 (lX5_makeCartans_2 P r2) := by
  unfold lX5_makeCartans_2
  refine sm_iload_n (pc := 2) (n := 1) dX5_makeCartans_2 rfl ?_
  refine sm_aload_n (pc := 3) (n := 0) dX5_makeCartans_3 rfl ?_
  refine gf_X5_9 (pc := 4) rfl dX5_makeCartans_4 ?_
  refine gf_X5_19 (pc := 7) rfl dX5_makeCartans_7 ?_
  refine sm_icmp_ge (pc := 10) (tgt := 85) dX5_makeCartans_10 (by decide) ?_ ?_
  · skip
    exact sm_vreturn (pc := 85) dX5_makeCartans_85 rfl
  · skip
    refine sm_iconst (pc := 13) dX5_makeCartans_13 zc_i_0 ?_
    refine sm_istore_n (pc := 14) (n := 2) dX5_makeCartans_14 rfl ?_
    exact sm_loop (fun r15 hr15 => slX5_makeCartans_15 P r15 r2 hr15 hr2) _
noncomputable def b_X5_makeCartans {d : Nat} (P : zP d) : zK d := (xpI 0 (xist 1 (xloop (fun r2 => (lX5_makeCartans_2 P r2)) 100000)))
set_option maxRecDepth 100000 in
set_option maxHeartbeats 4000000 in
theorem s_X5_makeCartans {d : Nat} [zGh] (P : zP d) : zSim X_X5_makeCartans 1 P 0 (b_X5_makeCartans P) := by
  unfold b_X5_makeCartans
  refine sm_iconst (pc := 0) dX5_makeCartans_0 zc_i_0 ?_
  refine sm_istore_n (pc := 1) (n := 1) dX5_makeCartans_1 rfl ?_
  exact sm_loop (fun r2 hr2 => slX5_makeCartans_2 P r2 hr2) _
noncomputable def f_X5_makeCartans {d : Nat} : List zV → zH d → zP d → Bool := zfn 4 b_X5_makeCartans
theorem m_X5_makeCartans {d : Nat} : zMet (d := d) X_X5_makeCartans yX5_makeCartans 1 f_X5_makeCartans := zmet_mk (X := X_X5_makeCartans) (by decide) rfl rfl s_X5_makeCartans

abbrev X_X5_makeProjectives : zM := (RX5, cX5_makeProjectives, 4, none, "makeProjectives")
noncomputable def cX5_makeProjectives_66 {d : Nat} (P : zP d) (r28 : zK d) : zK d := (xald1 0 (xbin zmul (xbin zadd (xast1 0 (fun v => v) (xinc 3 1 r28)))))
set_option maxRecDepth 100000 in
set_option maxHeartbeats 4000000 in
theorem scX5_makeProjectives_66 {d : Nat} [zGh] (P : zP d) (r28 : zK d) (hr28 : zSim X_X5_makeProjectives 1 P 28 r28) : zSim X_X5_makeProjectives 1 P 66 (cX5_makeProjectives_66 P r28) := by
  unfold cX5_makeProjectives_66
  refine sm_iaload (pc := 66) dX5_makeProjectives_66 ?_
  refine sm_imul (pc := 67) dX5_makeProjectives_67 ?_
  refine sm_iadd (pc := 68) dX5_makeProjectives_68 ?_
  refine sm_iastore (pc := 69) dX5_makeProjectives_69 ?_
  refine sm_iinc (pc := 70) (n := 3) dX5_makeProjectives_70 zc_i_1 ?_
  refine sm_goto (pc := 73) (tgt := 28) dX5_makeProjectives_73 (by decide) ?_
  exact hr28
noncomputable def lX5_makeProjectives_28 {d : Nat} (P : zP d) (r15 : zK d) (r28 : zK d) : zK d := (xild 3 (xald 0 (xgfR 21 0 (xgfI 23 1 (xcmp tge (xinc 2 1 r15) (xald 0 (xgfR 21 9 (xild 2 (xaal (xild 3 (xdup2 (xald1 0 (xald 0 (xgfR 21 7 (xild 1 (xaal (xild 2 (xald1 0 (xald 0 (xgfR 21 0 (xgfR 23 12 (xild 1 (xaal (xild 3 (cX5_makeProjectives_66 P r28)))))))))))))))))))))))))
set_option maxRecDepth 100000 in
set_option maxHeartbeats 4000000 in
theorem slX5_makeProjectives_28 {d : Nat} [zGh] (P : zP d) (r15 : zK d) (r28 : zK d) (hr15 : zSim X_X5_makeProjectives 1 P 15 r15) (hr28 : zSim X_X5_makeProjectives 1 P 28 r28) : zSim X_X5_makeProjectives 1 P 28 (lX5_makeProjectives_28 P r15 r28) := by
  unfold lX5_makeProjectives_28
  refine sm_iload_n (pc := 28) (n := 3) dX5_makeProjectives_28 rfl ?_
  refine sm_aload_n (pc := 29) (n := 0) dX5_makeProjectives_29 rfl ?_
  refine gf_X5_9 (pc := 30) rfl dX5_makeProjectives_30 ?_
  refine gf_X5_19 (pc := 33) rfl dX5_makeProjectives_33 ?_
  refine sm_icmp_ge (pc := 36) (tgt := 76) dX5_makeProjectives_36 (by decide) ?_ ?_
  · skip
    refine sm_iinc (pc := 76) (n := 2) dX5_makeProjectives_76 zc_i_1 ?_
    refine sm_goto (pc := 79) (tgt := 15) dX5_makeProjectives_79 (by decide) ?_
    exact hr15
  · skip
    refine sm_aload_n (pc := 39) (n := 0) dX5_makeProjectives_39 rfl ?_
    refine gf_X5_55 (pc := 40) rfl dX5_makeProjectives_40 ?_
    refine sm_iload_n (pc := 43) (n := 2) dX5_makeProjectives_43 rfl ?_
    refine sm_aaload (pc := 44) dX5_makeProjectives_44 ?_
    refine sm_iload_n (pc := 45) (n := 3) dX5_makeProjectives_45 rfl ?_
    refine sm_dup2 (pc := 46) dX5_makeProjectives_46 ?_
    refine sm_iaload (pc := 47) dX5_makeProjectives_47 ?_
    refine sm_aload_n (pc := 48) (n := 0) dX5_makeProjectives_48 rfl ?_
    refine gf_X5_46 (pc := 49) rfl dX5_makeProjectives_49 ?_
    refine sm_iload_n (pc := 52) (n := 1) dX5_makeProjectives_52 rfl ?_
    refine sm_aaload (pc := 53) dX5_makeProjectives_53 ?_
    refine sm_iload_n (pc := 54) (n := 2) dX5_makeProjectives_54 rfl ?_
    refine sm_iaload (pc := 55) dX5_makeProjectives_55 ?_
    refine sm_aload_n (pc := 56) (n := 0) dX5_makeProjectives_56 rfl ?_
    refine gf_X5_9 (pc := 57) rfl dX5_makeProjectives_57 ?_
    refine gf_X5_129 (pc := 60) rfl dX5_makeProjectives_60 ?_
    refine sm_iload_n (pc := 63) (n := 1) dX5_makeProjectives_63 rfl ?_
    refine sm_aaload (pc := 64) dX5_makeProjectives_64 ?_
    refine sm_iload_n (pc := 65) (n := 3) dX5_makeProjectives_65 rfl ?_
    exact scX5_makeProjectives_66 P r28 hr28
noncomputable def lX5_makeProjectives_15 {d : Nat} (P : zP d) (r15 : zK d) (r2 : zK d) : zK d := (xild 2 (xald 0 (xgfR 21 0 (xgfI 23 1 (xcmp tge (xinc 1 1 r2) (xpI 0 (xist 3 (xloop (fun r28 => (lX5_makeProjectives_28 P r15 r28)) 100000))))))))
set_option maxRecDepth 100000 in
set_option maxHeartbeats 4000000 in
theorem slX5_makeProjectives_15 {d : Nat} [zGh] (P : zP d) (r15 : zK d) (r2 : zK d) (hr15 : zSim X_X5_makeProjectives 1 P 15 r15) (hr2 : zSim X_X5_makeProjectives 1 P 2 r2) : zSim X_X5_makeProjectives 1 P 15 (lX5_makeProjectives_15 P r15 r2) := by
  unfold lX5_makeProjectives_15
  refine sm_iload_n (pc := 15) (n := 2) dX5_makeProjectives_15 rfl ?_
  refine sm_aload_n (pc := 16) (n := 0) dX5_makeProjectives_16 rfl ?_
  refine gf_X5_9 (pc := 17) rfl dX5_makeProjectives_17 ?_
  refine gf_X5_19 (pc := 20) rfl dX5_makeProjectives_20 ?_
  refine sm_icmp_ge (pc := 23) (tgt := 82) dX5_makeProjectives_23 (by decide) ?_ ?_
  · skip
    refine sm_iinc (pc := 82) (n := 1) dX5_makeProjectives_82 zc_i_1 ?_
    refine sm_goto (pc := 85) (tgt := 2) dX5_makeProjectives_85 (by decide) ?_
    exact hr2
  · skip
    refine sm_iconst (pc := 26) dX5_makeProjectives_26 zc_i_0 ?_
    refine sm_istore_n (pc := 27) (n := 3) dX5_makeProjectives_27 rfl ?_
    exact sm_loop (fun r28 hr28 => slX5_makeProjectives_28 P r15 r28 hr15 hr28) _
noncomputable def lX5_makeProjectives_2 {d : Nat} (P : zP d) (r2 : zK d) : zK d := (xild 1 (xald 0 (xgfR 21 0 (xgfI 23 1 (xcmp tge (xvret P) (xpI 0 (xist 2 (xloop (fun r15 => (lX5_makeProjectives_15 P r15 r2)) 100000))))))))
set_option maxRecDepth 100000 in
set_option maxHeartbeats 4000000 in
theorem slX5_makeProjectives_2 {d : Nat} [zGh] (P : zP d) (r2 : zK d) (hr2 : zSim X_X5_makeProjectives 1 P 2 r2) : zSim X_X5_makeProjectives 1 P 2 (lX5_makeProjectives_2 P r2) := by
  unfold lX5_makeProjectives_2
  refine sm_iload_n (pc := 2) (n := 1) dX5_makeProjectives_2 rfl ?_
  refine sm_aload_n (pc := 3) (n := 0) dX5_makeProjectives_3 rfl ?_
  refine gf_X5_9 (pc := 4) rfl dX5_makeProjectives_4 ?_
  refine gf_X5_19 (pc := 7) rfl dX5_makeProjectives_7 ?_
  refine sm_icmp_ge (pc := 10) (tgt := 88) dX5_makeProjectives_10 (by decide) ?_ ?_
  · skip
    exact sm_vreturn (pc := 88) dX5_makeProjectives_88 rfl
  · skip
    refine sm_iconst (pc := 13) dX5_makeProjectives_13 zc_i_0 ?_
    refine sm_istore_n (pc := 14) (n := 2) dX5_makeProjectives_14 rfl ?_
    exact sm_loop (fun r15 hr15 => slX5_makeProjectives_15 P r15 r2 hr15 hr2) _
noncomputable def b_X5_makeProjectives {d : Nat} (P : zP d) : zK d := (xpI 0 (xist 1 (xloop (fun r2 => (lX5_makeProjectives_2 P r2)) 100000)))
set_option maxRecDepth 100000 in
set_option maxHeartbeats 4000000 in
theorem s_X5_makeProjectives {d : Nat} [zGh] (P : zP d) : zSim X_X5_makeProjectives 1 P 0 (b_X5_makeProjectives P) := by
  unfold b_X5_makeProjectives
  refine sm_iconst (pc := 0) dX5_makeProjectives_0 zc_i_0 ?_
  refine sm_istore_n (pc := 1) (n := 1) dX5_makeProjectives_1 rfl ?_
  exact sm_loop (fun r2 hr2 => slX5_makeProjectives_2 P r2 hr2) _
noncomputable def f_X5_makeProjectives {d : Nat} : List zV → zH d → zP d → Bool := zfn 4 b_X5_makeProjectives
theorem m_X5_makeProjectives {d : Nat} : zMet (d := d) X_X5_makeProjectives yX5_makeProjectives 1 f_X5_makeProjectives := zmet_mk (X := X_X5_makeProjectives) (by decide) rfl rfl s_X5_makeProjectives

abbrev X_X5_determinant : zM := (RX5, cX5_determinant, 9, (some .long), "determinant")
noncomputable def bX5_determinant_134 {d : Nat} (P : zP d) : zK d := (xlret P)
set_option maxRecDepth 100000 in
set_option maxHeartbeats 4000000 in
theorem sbX5_determinant_134 {d : Nat} [zGh] (P : zP d) : zSim X_X5_determinant 1 P 134 (bX5_determinant_134 P) := by
  unfold bX5_determinant_134
  exact sm_lreturn (pc := 134) dX5_determinant_134 rfl
noncomputable def bX5_determinant_90 {d : Nat} (P : zP d) (r31 : zK d) : zK d := (xlas (xinc 6 1 r31))
set_option maxRecDepth 100000 in
set_option maxHeartbeats 4000000 in
theorem sbX5_determinant_90 {d : Nat} [zGh] (P : zP d) (r31 : zK d) (hr31 : zSim X_X5_determinant 1 P 31 r31) : zSim X_X5_determinant 1 P 90 (bX5_determinant_90 P r31) := by
  unfold bX5_determinant_90
  refine sm_lastore (pc := 90) dX5_determinant_90 ?_
  refine sm_iinc (pc := 91) (n := 6) dX5_determinant_91 zc_i_1 ?_
  refine sm_goto (pc := 94) (tgt := 31) dX5_determinant_94 (by decide) ?_
  exact hr31
noncomputable def cX5_determinant_66 {d : Nat} (P : zP d) (r31 : zK d) : zK d := (xbinj zmulj (xbinj zsubj (xlst 7 (xald 0 (xild 5 (xaal (xild 6 (xlld 2 (xpL 0 (xlcmp (xjoin (bX5_determinant_90 P r31) (fun j90 => (xif0 t0eq (xpL 0 j90) (xlld 7 (xlld 2 (xbinjN zdivj j90))))))))))))))))
set_option maxRecDepth 100000 in
set_option maxHeartbeats 4000000 in
theorem scX5_determinant_66 {d : Nat} [zGh] (P : zP d) (r31 : zK d) (hr31 : zSim X_X5_determinant 1 P 31 r31) : zSim X_X5_determinant 1 P 66 (cX5_determinant_66 P r31) := by
  unfold cX5_determinant_66
  refine sm_lmul (pc := 66) dX5_determinant_66 ?_
  refine sm_lsub (pc := 67) dX5_determinant_67 ?_
  refine sm_lstore (pc := 68) (n := 7) dX5_determinant_68 ?_
  refine sm_aload_n (pc := 70) (n := 0) dX5_determinant_70 rfl ?_
  refine sm_iload (pc := 71) (n := 5) dX5_determinant_71 ?_
  refine sm_aaload (pc := 73) dX5_determinant_73 ?_
  refine sm_iload (pc := 74) (n := 6) dX5_determinant_74 ?_
  refine sm_lload_n (pc := 76) (n := 2) dX5_determinant_76 rfl ?_
  refine sm_lconst (pc := 77) dX5_determinant_77 zc_l_0 ?_
  refine sm_lcmp (pc := 78) dX5_determinant_78 ?_
  refine sm_join (pc := 79) (pc' := 90) (sbX5_determinant_90 P r31 hr31) (fun j90 hj90 => ?_)
  refine sm_if_eq (pc := 79) (tgt := 89) dX5_determinant_79 (by decide) ?_ ?_
  · skip
    refine sm_lconst (pc := 89) dX5_determinant_89 zc_l_0 ?_
    exact hj90
  · skip
    refine sm_lload (pc := 82) (n := 7) dX5_determinant_82 ?_
    refine sm_lload_n (pc := 84) (n := 2) dX5_determinant_84 rfl ?_
    refine sm_ldiv (pc := 85) dX5_determinant_85 ?_
    refine sm_goto (pc := 86) (tgt := 90) dX5_determinant_86 (by decide) ?_
    exact hj90
noncomputable def lX5_determinant_31 {d : Nat} (P : zP d) (r19 : zK d) (r31 : zK d) : zK d := (xild 6 (xild 1 (xcmp tge (xinc 5 1 r19) (xald 0 (xild 5 (xaal (xild 6 (xlal (xald 0 (xild 4 (xaal (xild 4 (xlal (xbinj zmulj (xald 0 (xild 5 (xaal (xild 4 (xlal (xald 0 (xild 4 (xaal (xild 6 (xlal (cX5_determinant_66 P r31)))))))))))))))))))))))))
set_option maxRecDepth 100000 in
set_option maxHeartbeats 4000000 in
theorem slX5_determinant_31 {d : Nat} [zGh] (P : zP d) (r19 : zK d) (r31 : zK d) (hr19 : zSim X_X5_determinant 1 P 19 r19) (hr31 : zSim X_X5_determinant 1 P 31 r31) : zSim X_X5_determinant 1 P 31 (lX5_determinant_31 P r19 r31) := by
  unfold lX5_determinant_31
  refine sm_iload (pc := 31) (n := 6) dX5_determinant_31 ?_
  refine sm_iload_n (pc := 33) (n := 1) dX5_determinant_33 rfl ?_
  refine sm_icmp_ge (pc := 34) (tgt := 97) dX5_determinant_34 (by decide) ?_ ?_
  · skip
    refine sm_iinc (pc := 97) (n := 5) dX5_determinant_97 zc_i_1 ?_
    refine sm_goto (pc := 100) (tgt := 19) dX5_determinant_100 (by decide) ?_
    exact hr19
  · skip
    refine sm_aload_n (pc := 37) (n := 0) dX5_determinant_37 rfl ?_
    refine sm_iload (pc := 38) (n := 5) dX5_determinant_38 ?_
    refine sm_aaload (pc := 40) dX5_determinant_40 ?_
    refine sm_iload (pc := 41) (n := 6) dX5_determinant_41 ?_
    refine sm_laload (pc := 43) dX5_determinant_43 ?_
    refine sm_aload_n (pc := 44) (n := 0) dX5_determinant_44 rfl ?_
    refine sm_iload (pc := 45) (n := 4) dX5_determinant_45 ?_
    refine sm_aaload (pc := 47) dX5_determinant_47 ?_
    refine sm_iload (pc := 48) (n := 4) dX5_determinant_48 ?_
    refine sm_laload (pc := 50) dX5_determinant_50 ?_
    refine sm_lmul (pc := 51) dX5_determinant_51 ?_
    refine sm_aload_n (pc := 52) (n := 0) dX5_determinant_52 rfl ?_
    refine sm_iload (pc := 53) (n := 5) dX5_determinant_53 ?_
    refine sm_aaload (pc := 55) dX5_determinant_55 ?_
    refine sm_iload (pc := 56) (n := 4) dX5_determinant_56 ?_
    refine sm_laload (pc := 58) dX5_determinant_58 ?_
    refine sm_aload_n (pc := 59) (n := 0) dX5_determinant_59 rfl ?_
    refine sm_iload (pc := 60) (n := 4) dX5_determinant_60 ?_
    refine sm_aaload (pc := 62) dX5_determinant_62 ?_
    refine sm_iload (pc := 63) (n := 6) dX5_determinant_63 ?_
    refine sm_laload (pc := 65) dX5_determinant_65 ?_
    exact scX5_determinant_66 P r31 hr31
noncomputable def lX5_determinant_19 {d : Nat} (P : zP d) (r19 : zK d) (r5 : zK d) : zK d := (xild 5 (xild 1 (xcmp tge (xald 0 (xild 4 (xaal (xild 4 (xlal (xlst 2 (xinc 4 1 r5))))))) (xild 4 (xpI 1 (xbin zadd (xist 6 (xloop (fun r31 => (lX5_determinant_31 P r19 r31)) 100000))))))))
set_option maxRecDepth 100000 in
set_option maxHeartbeats 4000000 in
theorem slX5_determinant_19 {d : Nat} [zGh] (P : zP d) (r19 : zK d) (r5 : zK d) (hr19 : zSim X_X5_determinant 1 P 19 r19) (hr5 : zSim X_X5_determinant 1 P 5 r5) : zSim X_X5_determinant 1 P 19 (lX5_determinant_19 P r19 r5) := by
  unfold lX5_determinant_19
  refine sm_iload (pc := 19) (n := 5) dX5_determinant_19 ?_
  refine sm_iload_n (pc := 21) (n := 1) dX5_determinant_21 rfl ?_
  refine sm_icmp_ge (pc := 22) (tgt := 103) dX5_determinant_22 (by decide) ?_ ?_
  · skip
    refine sm_aload_n (pc := 103) (n := 0) dX5_determinant_103 rfl ?_
    refine sm_iload (pc := 104) (n := 4) dX5_determinant_104 ?_
    refine sm_aaload (pc := 106) dX5_determinant_106 ?_
    refine sm_iload (pc := 107) (n := 4) dX5_determinant_107 ?_
    refine sm_laload (pc := 109) dX5_determinant_109 ?_
    refine sm_lstore_n (pc := 110) (n := 2) dX5_determinant_110 rfl ?_
    refine sm_iinc (pc := 111) (n := 4) dX5_determinant_111 zc_i_1 ?_
    refine sm_goto (pc := 114) (tgt := 5) dX5_determinant_114 (by decide) ?_
    exact hr5
  · skip
    refine sm_iload (pc := 25) (n := 4) dX5_determinant_25 ?_
    refine sm_iconst (pc := 27) dX5_determinant_27 zc_i_1 ?_
    refine sm_iadd (pc := 28) dX5_determinant_28 ?_
    refine sm_istore (pc := 29) (n := 6) dX5_determinant_29 ?_
    exact sm_loop (fun r31 hr31 => slX5_determinant_31 P r19 r31 hr19 hr31) _
noncomputable def lX5_determinant_5 {d : Nat} (P : zP d) (r5 : zK d) : zK d := (xild 4 (xpI 1 (xbin zadd (xild 1 (xcmp tge (xild 1 (xjoin (bX5_determinant_134 P) (fun j134 => (xif0 t0le (xpL 1 j134) (xald 0 (xild 1 (xpI 1 (xbin zsub (xaal (xild 1 (xpI 1 (xbin zsub (xlal j134))))))))))))) (xild 4 (xpI 1 (xbin zadd (xist 5 (xloop (fun r19 => (lX5_determinant_19 P r19 r5)) 100000))))))))))
set_option maxRecDepth 100000 in
set_option maxHeartbeats 4000000 in
theorem slX5_determinant_5 {d : Nat} [zGh] (P : zP d) (r5 : zK d) (hr5 : zSim X_X5_determinant 1 P 5 r5) : zSim X_X5_determinant 1 P 5 (lX5_determinant_5 P r5) := by
  unfold lX5_determinant_5
  refine sm_iload (pc := 5) (n := 4) dX5_determinant_5 ?_
  refine sm_iconst (pc := 7) dX5_determinant_7 zc_i_1 ?_
  refine sm_iadd (pc := 8) dX5_determinant_8 ?_
  refine sm_iload_n (pc := 9) (n := 1) dX5_determinant_9 rfl ?_
  refine sm_icmp_ge (pc := 10) (tgt := 117) dX5_determinant_10 (by decide) ?_ ?_
  · skip
    refine sm_iload_n (pc := 117) (n := 1) dX5_determinant_117 rfl ?_
    refine sm_join (pc := 118) (pc' := 134) (sbX5_determinant_134 P) (fun j134 hj134 => ?_)
    refine sm_if_le (pc := 118) (tgt := 133) dX5_determinant_118 (by decide) ?_ ?_
    · skip
      refine sm_lconst (pc := 133) dX5_determinant_133 zc_l_1 ?_
      exact hj134
    · skip
      refine sm_aload_n (pc := 121) (n := 0) dX5_determinant_121 rfl ?_
      refine sm_iload_n (pc := 122) (n := 1) dX5_determinant_122 rfl ?_
      refine sm_iconst (pc := 123) dX5_determinant_123 zc_i_1 ?_
      refine sm_isub (pc := 124) dX5_determinant_124 ?_
      refine sm_aaload (pc := 125) dX5_determinant_125 ?_
      refine sm_iload_n (pc := 126) (n := 1) dX5_determinant_126 rfl ?_
      refine sm_iconst (pc := 127) dX5_determinant_127 zc_i_1 ?_
      refine sm_isub (pc := 128) dX5_determinant_128 ?_
      refine sm_laload (pc := 129) dX5_determinant_129 ?_
      refine sm_goto (pc := 130) (tgt := 134) dX5_determinant_130 (by decide) ?_
      exact hj134
  · skip
    refine sm_iload (pc := 13) (n := 4) dX5_determinant_13 ?_
    refine sm_iconst (pc := 15) dX5_determinant_15 zc_i_1 ?_
    refine sm_iadd (pc := 16) dX5_determinant_16 ?_
    refine sm_istore (pc := 17) (n := 5) dX5_determinant_17 ?_
    exact sm_loop (fun r19 hr19 => slX5_determinant_19 P r19 r5 hr19 hr5) _
noncomputable def b_X5_determinant {d : Nat} (P : zP d) : zK d := (xpL 1 (xlst 2 (xpI 0 (xist 4 (xloop (fun r5 => (lX5_determinant_5 P r5)) 100000)))))
set_option maxRecDepth 100000 in
set_option maxHeartbeats 4000000 in
theorem s_X5_determinant {d : Nat} [zGh] (P : zP d) : zSim X_X5_determinant 1 P 0 (b_X5_determinant P) := by
  unfold b_X5_determinant
  refine sm_lconst (pc := 0) dX5_determinant_0 zc_l_1 ?_
  refine sm_lstore_n (pc := 1) (n := 2) dX5_determinant_1 rfl ?_
  refine sm_iconst (pc := 2) dX5_determinant_2 zc_i_0 ?_
  refine sm_istore (pc := 3) (n := 4) dX5_determinant_3 ?_
  exact sm_loop (fun r5 hr5 => slX5_determinant_5 P r5 hr5) _
noncomputable def f_X5_determinant {d : Nat} : List zV → zH d → zP d → Bool := zfn 9 b_X5_determinant
theorem m_X5_determinant {d : Nat} : zMet (d := d) X_X5_determinant yX5_determinant 1 f_X5_determinant := zmet_mk (X := X_X5_determinant) (by decide) rfl rfl s_X5_determinant

abbrev X_X5_makeDeterminants : zM := (RX5, cX5_makeDeterminants, 7, none, "makeDeterminants")
noncomputable def lX5_makeDeterminants_102 {d : Nat} (P : zP d) (r102 : zK d) (r92 : zK d) : zK d := (xild 6 (xild 4 (xcmp tge (xinc 5 1 r92) (xald 1 (xild 5 (xaal (xild 6 (xald 0 (xgfR 21 8 (xald 2 (xild 5 (xald1 0 (xaal (xald 2 (xild 6 (xald1 0 (xald1 0 (xi2l (xlas (xinc 6 1 r102))))))))))))))))))))
set_option maxRecDepth 100000 in
set_option maxHeartbeats 4000000 in
theorem slX5_makeDeterminants_102 {d : Nat} [zGh] (P : zP d) (r102 : zK d) (r92 : zK d) (hr102 : zSim X_X5_makeDeterminants 2 P 102 r102) (hr92 : zSim X_X5_makeDeterminants 2 P 92 r92) : zSim X_X5_makeDeterminants 2 P 102 (lX5_makeDeterminants_102 P r102 r92) := by
  unfold lX5_makeDeterminants_102
  refine sm_iload (pc := 102) (n := 6) dX5_makeDeterminants_102 ?_
  refine sm_iload (pc := 104) (n := 4) dX5_makeDeterminants_104 ?_
  refine sm_icmp_ge (pc := 106) (tgt := 137) dX5_makeDeterminants_106 (by decide) ?_ ?_
  · skip
    refine sm_iinc (pc := 137) (n := 5) dX5_makeDeterminants_137 zc_i_1 ?_
    refine sm_goto (pc := 140) (tgt := 92) dX5_makeDeterminants_140 (by decide) ?_
    exact hr92
  · skip
    refine sm_aload_n (pc := 109) (n := 1) dX5_makeDeterminants_109 rfl ?_
    refine sm_iload (pc := 110) (n := 5) dX5_makeDeterminants_110 ?_
    refine sm_aaload (pc := 112) dX5_makeDeterminants_112 ?_
    refine sm_iload (pc := 113) (n := 6) dX5_makeDeterminants_113 ?_
    refine sm_aload_n (pc := 115) (n := 0) dX5_makeDeterminants_115 rfl ?_
    refine gf_X5_52 (pc := 116) rfl dX5_makeDeterminants_116 ?_
    refine sm_aload_n (pc := 119) (n := 2) dX5_makeDeterminants_119 rfl ?_
    refine sm_iload (pc := 120) (n := 5) dX5_makeDeterminants_120 ?_
    refine sm_iaload (pc := 122) dX5_makeDeterminants_122 ?_
    refine sm_aaload (pc := 123) dX5_makeDeterminants_123 ?_
    refine sm_aload_n (pc := 124) (n := 2) dX5_makeDeterminants_124 rfl ?_
    refine sm_iload (pc := 125) (n := 6) dX5_makeDeterminants_125 ?_
    refine sm_iaload (pc := 127) dX5_makeDeterminants_127 ?_
    refine sm_iaload (pc := 128) dX5_makeDeterminants_128 ?_
    refine sm_i2l (pc := 129) dX5_makeDeterminants_129 ?_
    refine sm_lastore (pc := 130) dX5_makeDeterminants_130 ?_
    refine sm_iinc (pc := 131) (n := 6) dX5_makeDeterminants_131 zc_i_1 ?_
    refine sm_goto (pc := 134) (tgt := 102) dX5_makeDeterminants_134 (by decide) ?_
    exact hr102
noncomputable def lX5_makeDeterminants_92 {d : Nat} (P : zP d) (r22 : zK d) (r92 : zK d) : zK d := (xild 5 (xild 4 (xcmp tge (xald 0 (xgfR 21 11 (xild 3 (xald 1 (xild 4 (xcS 2 0 0 f_X5_determinant (xl2i (xast1 0 (fun v => v) (xinc 3 1 r22))))))))) (xpI 0 (xist 6 (xloop (fun r102 => (lX5_makeDeterminants_102 P r102 r92)) 100000))))))
set_option maxRecDepth 100000 in
set_option maxHeartbeats 4000000 in
theorem slX5_makeDeterminants_92 {d : Nat} [zGh] (P : zP d) (r22 : zK d) (r92 : zK d) (hr22 : zSim X_X5_makeDeterminants 2 P 22 r22) (hr92 : zSim X_X5_makeDeterminants 2 P 92 r92) : zSim X_X5_makeDeterminants 2 P 92 (lX5_makeDeterminants_92 P r22 r92) := by
  unfold lX5_makeDeterminants_92
  refine sm_iload (pc := 92) (n := 5) dX5_makeDeterminants_92 ?_
  refine sm_iload (pc := 94) (n := 4) dX5_makeDeterminants_94 ?_
  refine sm_icmp_ge (pc := 96) (tgt := 143) dX5_makeDeterminants_96 (by decide) ?_ ?_
  · skip
    refine sm_aload_n (pc := 143) (n := 0) dX5_makeDeterminants_143 rfl ?_
    refine gf_X5_74 (pc := 144) rfl dX5_makeDeterminants_144 ?_
    refine sm_iload_n (pc := 147) (n := 3) dX5_makeDeterminants_147 rfl ?_
    refine sm_aload_n (pc := 148) (n := 1) dX5_makeDeterminants_148 rfl ?_
    refine sm_iload (pc := 149) (n := 4) dX5_makeDeterminants_149 ?_
    refine sm_cS (pc := 151) (n := 2) (mc := 0) (ms := 0) m_X5_determinant (cr_X5_173 (X := X_X5_makeDeterminants) (fr := 2) (frc := 1) (pc := 151) (mc := 0) (ms := 0) rfl (by decide) dX5_makeDeterminants_151) ?_
    refine sm_l2i (pc := 154) dX5_makeDeterminants_154 ?_
    refine sm_iastore (pc := 155) dX5_makeDeterminants_155 ?_
    refine sm_iinc (pc := 156) (n := 3) dX5_makeDeterminants_156 zc_i_1 ?_
    refine sm_goto (pc := 159) (tgt := 22) dX5_makeDeterminants_159 (by decide) ?_
    exact hr22
  · skip
    refine sm_iconst (pc := 99) dX5_makeDeterminants_99 zc_i_0 ?_
    refine sm_istore (pc := 100) (n := 6) dX5_makeDeterminants_100 ?_
    exact sm_loop (fun r102 hr102 => slX5_makeDeterminants_102 P r102 r92 hr102 hr92) _
noncomputable def bX5_makeDeterminants_83 {d : Nat} (P : zP d) (r39 : zK d) : zK d := (xinc 5 1 r39)
set_option maxRecDepth 100000 in
set_option maxHeartbeats 4000000 in
theorem sbX5_makeDeterminants_83 {d : Nat} [zGh] (P : zP d) (r39 : zK d) (hr39 : zSim X_X5_makeDeterminants 2 P 39 r39) : zSim X_X5_makeDeterminants 2 P 83 (bX5_makeDeterminants_83 P r39) := by
  unfold bX5_makeDeterminants_83
  refine sm_iinc (pc := 83) (n := 5) dX5_makeDeterminants_83 zc_i_1 ?_
  refine sm_goto (pc := 86) (tgt := 39) dX5_makeDeterminants_86 (by decide) ?_
  exact hr39
noncomputable def lX5_makeDeterminants_39 {d : Nat} (P : zP d) (r22 : zK d) (r39 : zK d) : zK d := (xild 5 (xald 0 (xgfR 21 0 (xgfI 23 1 (xcmp tge (xpI 0 (xist 5 (xloop (fun r92 => (lX5_makeDeterminants_92 P r22 r92)) 100000))) (xald 0 (xild 5 (xcV 21 2 0 0 f_X5_isRegular (xjoin (bX5_makeDeterminants_83 P r39) (fun j83 => (xif0 t0eq j83 (xald 0 (xgfR 21 10 (xgfR 16 2 (xild 5 (xald1 0 (xild 3 (xcmp Nat.beq (xald 2 (xild 4 (xild 5 (xast1 0 (fun v => v) (xinc 4 1 j83))))) j83))))))))))))))))))
set_option maxRecDepth 100000 in
set_option maxHeartbeats 4000000 in
theorem slX5_makeDeterminants_39 {d : Nat} [zGh] (P : zP d) (r22 : zK d) (r39 : zK d) (hr22 : zSim X_X5_makeDeterminants 2 P 22 r22) (hr39 : zSim X_X5_makeDeterminants 2 P 39 r39) : zSim X_X5_makeDeterminants 2 P 39 (lX5_makeDeterminants_39 P r22 r39) := by
  unfold lX5_makeDeterminants_39
  refine sm_iload (pc := 39) (n := 5) dX5_makeDeterminants_39 ?_
  refine sm_aload_n (pc := 41) (n := 0) dX5_makeDeterminants_41 rfl ?_
  refine gf_X5_9 (pc := 42) rfl dX5_makeDeterminants_42 ?_
  refine gf_X5_19 (pc := 45) rfl dX5_makeDeterminants_45 ?_
  refine sm_icmp_ge (pc := 48) (tgt := 89) dX5_makeDeterminants_48 (by decide) ?_ ?_
  · skip
    refine sm_iconst (pc := 89) dX5_makeDeterminants_89 zc_i_0 ?_
    refine sm_istore (pc := 90) (n := 5) dX5_makeDeterminants_90 ?_
    exact sm_loop (fun r92 hr92 => slX5_makeDeterminants_92 P r22 r92 hr22 hr92) _
  · skip
    refine sm_aload_n (pc := 51) (n := 0) dX5_makeDeterminants_51 rfl ?_
    refine sm_iload (pc := 52) (n := 5) dX5_makeDeterminants_52 ?_
    refine sm_cV (pc := 54) (ci := 5) (n := 2) (mc := 0) (ms := 0) rfl m_X5_isRegular (cr_X5_117 (X := X_X5_makeDeterminants) (fr := 2) (frc := 1) (pc := 54) (mc := 0) (ms := 0) rfl (by decide) dX5_makeDeterminants_54) ?_
    refine sm_join (pc := 57) (pc' := 83) (sbX5_makeDeterminants_83 P r39 hr39) (fun j83 hj83 => ?_)
    refine sm_if_eq (pc := 57) (tgt := 83) dX5_makeDeterminants_57 (by decide) ?_ ?_
    · skip
      exact hj83
    · skip
      refine sm_aload_n (pc := 60) (n := 0) dX5_makeDeterminants_60 rfl ?_
      refine gf_X5_69 (pc := 61) rfl dX5_makeDeterminants_61 ?_
      refine gf_X5_170 (pc := 64) rfl dX5_makeDeterminants_64 ?_
      refine sm_iload (pc := 67) (n := 5) dX5_makeDeterminants_67 ?_
      refine sm_iaload (pc := 69) dX5_makeDeterminants_69 ?_
      refine sm_iload_n (pc := 70) (n := 3) dX5_makeDeterminants_70 rfl ?_
      refine sm_icmp_ne (pc := 71) (tgt := 83) dX5_makeDeterminants_71 (by decide) ?_ ?_
      · skip
        exact hj83
      · skip
        refine sm_aload_n (pc := 74) (n := 2) dX5_makeDeterminants_74 rfl ?_
        refine sm_iload (pc := 75) (n := 4) dX5_makeDeterminants_75 ?_
        refine sm_iload (pc := 77) (n := 5) dX5_makeDeterminants_77 ?_
        refine sm_iastore (pc := 79) dX5_makeDeterminants_79 ?_
        refine sm_iinc (pc := 80) (n := 4) dX5_makeDeterminants_80 zc_i_1 ?_
        exact hj83
noncomputable def lX5_makeDeterminants_22 {d : Nat} (P : zP d) (r22 : zK d) : zK d := (xild 3 (xald 0 (xgfR 21 10 (xgfI 16 3 (xcmp tge (xvret P) (xpI 0 (xist 4 (xpI 0 (xist 5 (xloop (fun r39 => (lX5_makeDeterminants_39 P r22 r39)) 100000))))))))))
set_option maxRecDepth 100000 in
set_option maxHeartbeats 4000000 in
theorem slX5_makeDeterminants_22 {d : Nat} [zGh] (P : zP d) (r22 : zK d) (hr22 : zSim X_X5_makeDeterminants 2 P 22 r22) : zSim X_X5_makeDeterminants 2 P 22 (lX5_makeDeterminants_22 P r22) := by
  unfold lX5_makeDeterminants_22
  refine sm_iload_n (pc := 22) (n := 3) dX5_makeDeterminants_22 rfl ?_
  refine sm_aload_n (pc := 23) (n := 0) dX5_makeDeterminants_23 rfl ?_
  refine gf_X5_69 (pc := 24) rfl dX5_makeDeterminants_24 ?_
  refine gf_X5_73 (pc := 27) rfl dX5_makeDeterminants_27 ?_
  refine sm_icmp_ge (pc := 30) (tgt := 162) dX5_makeDeterminants_30 (by decide) ?_ ?_
  · skip
    exact sm_vreturn (pc := 162) dX5_makeDeterminants_162 rfl
  · skip
    refine sm_iconst (pc := 33) dX5_makeDeterminants_33 zc_i_0 ?_
    refine sm_istore (pc := 34) (n := 4) dX5_makeDeterminants_34 ?_
    refine sm_iconst (pc := 36) dX5_makeDeterminants_36 zc_i_0 ?_
    refine sm_istore (pc := 37) (n := 5) dX5_makeDeterminants_37 ?_
    exact sm_loop (fun r39 hr39 => slX5_makeDeterminants_39 P r22 r39 hr22 hr39) _
noncomputable def b_X5_makeDeterminants {d : Nat} (P : zP d) : zK d := (xald 0 (xgfI 21 3 (xald 0 (xgfI 21 3 (xmnaD 4 2 (xast 1 (xald 0 (xgfI 21 3 (xnwa 0 (xast 2 (xpI 0 (xist 3 (xloop (fun r22 => (lX5_makeDeterminants_22 P r22)) 100000)))))))))))))
set_option maxRecDepth 100000 in
set_option maxHeartbeats 4000000 in
theorem s_X5_makeDeterminants {d : Nat} [zGh] (P : zP d) : zSim X_X5_makeDeterminants 2 P 0 (b_X5_makeDeterminants P) := by
  unfold b_X5_makeDeterminants
  refine sm_aload_n (pc := 0) (n := 0) dX5_makeDeterminants_0 rfl ?_
  refine gf_X5_89 (pc := 1) rfl dX5_makeDeterminants_1 ?_
  refine sm_aload_n (pc := 4) (n := 0) dX5_makeDeterminants_4 rfl ?_
  refine gf_X5_89 (pc := 5) rfl dX5_makeDeterminants_5 ?_
  refine sm_mnaDJ (pc := 8) wd_483 wd_45 dX5_makeDeterminants_8 ?_
  refine sm_astore_n (pc := 12) (n := 1) dX5_makeDeterminants_12 rfl ?_
  refine sm_aload_n (pc := 13) (n := 0) dX5_makeDeterminants_13 rfl ?_
  refine gf_X5_89 (pc := 14) rfl dX5_makeDeterminants_14 ?_
  refine sm_newI (pc := 17) dX5_makeDeterminants_17 wd_46 ?_
  refine sm_astore_n (pc := 19) (n := 2) dX5_makeDeterminants_19 rfl ?_
  refine sm_iconst (pc := 20) dX5_makeDeterminants_20 zc_i_0 ?_
  refine sm_istore_n (pc := 21) (n := 3) dX5_makeDeterminants_21 rfl ?_
  exact sm_loop (fun r22 hr22 => slX5_makeDeterminants_22 P r22 hr22) _
noncomputable def f_X5_makeDeterminants {d : Nat} : List zV → zH d → zP d → Bool := zfn 7 b_X5_makeDeterminants
theorem m_X5_makeDeterminants {d : Nat} : zMet (d := d) X_X5_makeDeterminants yX5_makeDeterminants 2 f_X5_makeDeterminants := zmet_mk (X := X_X5_makeDeterminants) (by decide) rfl rfl s_X5_makeDeterminants

abbrev X_X5_init : zM := (RX5, cX5_init, 4, none, "<init>")
noncomputable def cX5_init_89 {d : Nat} (P : zP d) : zK d := (xpfR 21 9 (xald 0 (xcV 21 1 0 0 f_X5_makeCartans (xald 0 (xcV 21 1 0 0 f_X5_makeProjectives (xald 0 (xnew 16 8 (xdup (xald 1 (xild 2 (xald 0 (xgfR 21 2 (xcV 16 4 20 170 f_X0_init (xpfR 21 10 (xald 0 (xald 0 (xgfR 21 10 (xgfI 16 3 (xnwa 0 (xpfR 21 11 (xald 0 (xcV 21 1 15 160 f_X5_makeDeterminants (xvret P)))))))))))))))))))))))
set_option maxRecDepth 100000 in
set_option maxHeartbeats 4000000 in
theorem scX5_init_89 {d : Nat} [zGh] (P : zP d) : zSim X_X5_init 6 P 89 (cX5_init_89 P) := by
  unfold cX5_init_89
  refine pf_X5_55 (pc := 89) rfl rfl dX5_init_89 ?_
  refine sm_aload_n (pc := 92) (n := 0) dX5_init_92 rfl ?_
  refine sm_cV (pc := 93) (ci := 5) (n := 1) (mc := 0) (ms := 0) rfl m_X5_makeCartans (cr_X5_58 (X := X_X5_init) (fr := 6) (frc := 1) (pc := 93) (mc := 0) (ms := 0) rfl (by decide) dX5_init_93) ?_
  refine sm_aload_n (pc := 96) (n := 0) dX5_init_96 rfl ?_
  refine sm_cV (pc := 97) (ci := 5) (n := 1) (mc := 0) (ms := 0) rfl m_X5_makeProjectives (cr_X5_61 (X := X_X5_init) (fr := 6) (frc := 1) (pc := 97) (mc := 0) (ms := 0) rfl (by decide) dX5_init_97) ?_
  refine sm_aload_n (pc := 100) (n := 0) dX5_init_100 rfl ?_
  refine sm_new (pc := 101) (ci := 0) (C := RX0) (T := TX0) (N := 8) (ty0 := tyX0) rfl rfl (by decide) (by decide) inz0 tyX0_ok rfl wd_420 wd_421 wd_11 dX5_init_101 ?_
  refine sm_dup (pc := 104) dX5_init_104 ?_
  refine sm_aload_n (pc := 105) (n := 1) dX5_init_105 rfl ?_
  refine sm_iload_n (pc := 106) (n := 2) dX5_init_106 rfl ?_
  refine sm_aload_n (pc := 107) (n := 0) dX5_init_107 rfl ?_
  refine gf_X5_24 (pc := 108) rfl dX5_init_108 ?_
  refine sm_cV (pc := 111) (ci := 0) (n := 4) (mc := 20) (ms := 170) rfl m_X0_init (cr_X5_66 (X := X_X5_init) (fr := 6) (frc := 3) (pc := 111) (mc := 20) (ms := 170) rfl (by decide) dX5_init_111) ?_
  refine pf_X5_69 (pc := 114) rfl rfl dX5_init_114 ?_
  refine sm_aload_n (pc := 117) (n := 0) dX5_init_117 rfl ?_
  refine sm_aload_n (pc := 118) (n := 0) dX5_init_118 rfl ?_
  refine gf_X5_69 (pc := 119) rfl dX5_init_119 ?_
  refine gf_X5_73 (pc := 122) rfl dX5_init_122 ?_
  refine sm_newI (pc := 125) dX5_init_125 wd_46 ?_
  refine pf_X5_74 (pc := 127) rfl rfl dX5_init_127 ?_
  refine sm_aload_n (pc := 130) (n := 0) dX5_init_130 rfl ?_
  refine sm_cV (pc := 131) (ci := 5) (n := 1) (mc := 15) (ms := 160) rfl m_X5_makeDeterminants (cr_X5_77 (X := X_X5_init) (fr := 6) (frc := 2) (pc := 131) (mc := 15) (ms := 160) rfl (by decide) dX5_init_131) ?_
  exact sm_vreturn (pc := 134) dX5_init_134 rfl
noncomputable def cX5_init_41 {d : Nat} (P : zP d) : zK d := (xpfR 21 5 (xald 0 (xild 3 (xild 3 (xmnaD 3 0 (xpfR 21 6 (xald 0 (xcV 21 1 45 650 f_X5_makeModulars (xald 0 (xild 3 (xild 3 (xmnaD 3 0 (xpfR 21 7 (xald 0 (xcV 21 1 25 350 f_X5_makeDecompositions (xald 0 (xild 3 (xild 3 (xmnaD 3 0 (xpfR 21 8 (xald 0 (xild 3 (xild 3 (xmnaD 3 0 (cX5_init_89 P)))))))))))))))))))))))))
set_option maxRecDepth 100000 in
set_option maxHeartbeats 4000000 in
theorem scX5_init_41 {d : Nat} [zGh] (P : zP d) : zSim X_X5_init 6 P 41 (cX5_init_41 P) := by
  unfold cX5_init_41
  refine pf_X5_35 (pc := 41) rfl rfl dX5_init_41 ?_
  refine sm_aload_n (pc := 44) (n := 0) dX5_init_44 rfl ?_
  refine sm_iload_n (pc := 45) (n := 3) dX5_init_45 rfl ?_
  refine sm_iload_n (pc := 46) (n := 3) dX5_init_46 rfl ?_
  refine sm_mnaDI (pc := 47) wd_339 wd_46 dX5_init_47 ?_
  refine pf_X5_40 (pc := 51) rfl rfl dX5_init_51 ?_
  refine sm_aload_n (pc := 54) (n := 0) dX5_init_54 rfl ?_
  refine sm_cV (pc := 55) (ci := 5) (n := 1) (mc := 45) (ms := 650) rfl m_X5_makeModulars (cr_X5_43 (X := X_X5_init) (fr := 6) (frc := 5) (pc := 55) (mc := 45) (ms := 650) rfl (by decide) dX5_init_55) ?_
  refine sm_aload_n (pc := 58) (n := 0) dX5_init_58 rfl ?_
  refine sm_iload_n (pc := 59) (n := 3) dX5_init_59 rfl ?_
  refine sm_iload_n (pc := 60) (n := 3) dX5_init_60 rfl ?_
  refine sm_mnaDI (pc := 61) wd_339 wd_46 dX5_init_61 ?_
  refine pf_X5_46 (pc := 65) rfl rfl dX5_init_65 ?_
  refine sm_aload_n (pc := 68) (n := 0) dX5_init_68 rfl ?_
  refine sm_cV (pc := 69) (ci := 5) (n := 1) (mc := 25) (ms := 350) rfl m_X5_makeDecompositions (cr_X5_49 (X := X_X5_init) (fr := 6) (frc := 3) (pc := 69) (mc := 25) (ms := 350) rfl (by decide) dX5_init_69) ?_
  refine sm_aload_n (pc := 72) (n := 0) dX5_init_72 rfl ?_
  refine sm_iload_n (pc := 73) (n := 3) dX5_init_73 rfl ?_
  refine sm_iload_n (pc := 74) (n := 3) dX5_init_74 rfl ?_
  refine sm_mnaDI (pc := 75) wd_339 wd_46 dX5_init_75 ?_
  refine pf_X5_52 (pc := 79) rfl rfl dX5_init_79 ?_
  refine sm_aload_n (pc := 82) (n := 0) dX5_init_82 rfl ?_
  refine sm_iload_n (pc := 83) (n := 3) dX5_init_83 rfl ?_
  refine sm_iload_n (pc := 84) (n := 3) dX5_init_84 rfl ?_
  refine sm_mnaDI (pc := 85) wd_339 wd_46 dX5_init_85 ?_
  exact scX5_init_89 P
noncomputable def b_X5_init {d : Nat} (P : zP d) : zK d := (xald 0 (xobj (xald 0 (xald 1 (xpfR 21 0 (xald 0 (xild 2 (xpfI 21 1 (xald 1 (xgfI 23 1 (xist 3 (xald 0 (xild 3 (xnwa 0 (xpfR 21 2 (xald 0 (xild 3 (xnwa 1 (xpfR 21 4 (xald 0 (xcV 21 1 0 0 f_X5_markRegular (xald 0 (xild 3 (xnwa 0 (cX5_init_41 P)))))))))))))))))))))))))
set_option maxRecDepth 100000 in
set_option maxHeartbeats 4000000 in
theorem s_X5_init {d : Nat} [zGh] (P : zP d) : zSim X_X5_init 6 P 0 (b_X5_init P) := by
  unfold b_X5_init
  refine sm_aload_n (pc := 0) (n := 0) dX5_init_0 rfl ?_
  refine sm_objinit (pc := 1) wd_331 wd_21 wd_22 (by decide) dX5_init_1 ?_
  refine sm_aload_n (pc := 4) (n := 0) dX5_init_4 rfl ?_
  refine sm_aload_n (pc := 5) (n := 1) dX5_init_5 rfl ?_
  refine pf_X5_9 (pc := 6) rfl rfl dX5_init_6 ?_
  refine sm_aload_n (pc := 9) (n := 0) dX5_init_9 rfl ?_
  refine sm_iload_n (pc := 10) (n := 2) dX5_init_10 rfl ?_
  refine pf_X5_15 (pc := 11) rfl rfl dX5_init_11 ?_
  refine sm_aload_n (pc := 14) (n := 1) dX5_init_14 rfl ?_
  refine gf_X5_19 (pc := 15) rfl dX5_init_15 ?_
  refine sm_istore_n (pc := 18) (n := 3) dX5_init_18 rfl ?_
  refine sm_aload_n (pc := 19) (n := 0) dX5_init_19 rfl ?_
  refine sm_iload_n (pc := 20) (n := 3) dX5_init_20 rfl ?_
  refine sm_newI (pc := 21) dX5_init_21 wd_46 ?_
  refine pf_X5_24 (pc := 23) rfl rfl dX5_init_23 ?_
  refine sm_aload_n (pc := 26) (n := 0) dX5_init_26 rfl ?_
  refine sm_iload_n (pc := 27) (n := 3) dX5_init_27 rfl ?_
  refine sm_newZ (pc := 28) dX5_init_28 wd_360 ?_
  refine pf_X5_28 (pc := 30) rfl rfl dX5_init_30 ?_
  refine sm_aload_n (pc := 33) (n := 0) dX5_init_33 rfl ?_
  refine sm_cV (pc := 34) (ci := 5) (n := 1) (mc := 0) (ms := 0) rfl m_X5_markRegular (cr_X5_32 (X := X_X5_init) (fr := 6) (frc := 2) (pc := 34) (mc := 0) (ms := 0) rfl (by decide) dX5_init_34) ?_
  refine sm_aload_n (pc := 37) (n := 0) dX5_init_37 rfl ?_
  refine sm_iload_n (pc := 38) (n := 3) dX5_init_38 rfl ?_
  refine sm_newI (pc := 39) dX5_init_39 wd_46 ?_
  exact scX5_init_41 P
noncomputable def f_X5_init {d : Nat} : List zV → zH d → zP d → Bool := zfn 4 b_X5_init
theorem m_X5_init {d : Nat} : zMet (d := d) X_X5_init yX5_init 6 f_X5_init := zmet_mk (X := X_X5_init) (by decide) rfl rfl s_X5_init
end
section
/-! the class, by program -/
abbrev X_X2_init : zM := (RX2, cX2_init, 5, none, "<init>")
noncomputable def cX2_init_93 {d : Nat} (P : zP d) : zK d := (xald 4 (xpfR 18 13 (xvret P)))
set_option maxRecDepth 100000 in
set_option maxHeartbeats 4000000 in
theorem scX2_init_93 {d : Nat} [zGh] (P : zP d) : zSim X_X2_init 2 P 93 (cX2_init_93 P) := by
  unfold cX2_init_93
  refine sm_aload (pc := 93) (n := 4) dX2_init_93 ?_
  refine pf_X2_53 (pc := 95) rfl dX2_init_95 ?_
  exact sm_vreturn (pc := 98) dX2_init_98 rfl
noncomputable def cX2_init_50 {d : Nat} (P : zP d) : zK d := (xnwa 0 (xpfR 18 4 (xald 0 (xpI 5 (xnwa 0 (xpfR 18 5 (xald 0 (xpI 5 (xnwa 0 (xpfR 18 6 (xald 0 (xpI 6 (xnwa 0 (xpfR 18 7 (xald 0 (xald 1 (xpfR 18 10 (xald 0 (xald 2 (xpfR 18 11 (xald 0 (xald 3 (xpfR 18 12 (xald 0 (cX2_init_93 P)))))))))))))))))))))))))
set_option maxRecDepth 100000 in
set_option maxHeartbeats 4000000 in
theorem scX2_init_50 {d : Nat} [zGh] (P : zP d) : zSim X_X2_init 2 P 50 (cX2_init_50 P) := by
  unfold cX2_init_50
  refine sm_newI (pc := 50) dX2_init_50 wd_46 ?_
  refine pf_X2_29 (pc := 52) rfl rfl dX2_init_52 ?_
  refine sm_aload_n (pc := 55) (n := 0) dX2_init_55 rfl ?_
  refine sm_iconst (pc := 56) dX2_init_56 zc_i_5 ?_
  refine sm_newI (pc := 57) dX2_init_57 wd_46 ?_
  refine pf_X2_33 (pc := 59) rfl rfl dX2_init_59 ?_
  refine sm_aload_n (pc := 62) (n := 0) dX2_init_62 rfl ?_
  refine sm_iconst (pc := 63) dX2_init_63 zc_i_5 ?_
  refine sm_newI (pc := 64) dX2_init_64 wd_46 ?_
  refine pf_X2_36 (pc := 66) rfl rfl dX2_init_66 ?_
  refine sm_aload_n (pc := 69) (n := 0) dX2_init_69 rfl ?_
  refine sm_bipush (pc := 70) dX2_init_70 zc_b_6 ?_
  refine sm_newI (pc := 72) dX2_init_72 wd_46 ?_
  refine pf_X2_39 (pc := 74) rfl rfl dX2_init_74 ?_
  refine sm_aload_n (pc := 77) (n := 0) dX2_init_77 rfl ?_
  refine sm_aload_n (pc := 78) (n := 1) dX2_init_78 rfl ?_
  refine pf_X2_42 (pc := 79) rfl rfl dX2_init_79 ?_
  refine sm_aload_n (pc := 82) (n := 0) dX2_init_82 rfl ?_
  refine sm_aload_n (pc := 83) (n := 2) dX2_init_83 rfl ?_
  refine pf_X2_46 (pc := 84) rfl rfl dX2_init_84 ?_
  refine sm_aload_n (pc := 87) (n := 0) dX2_init_87 rfl ?_
  refine sm_aload_n (pc := 88) (n := 3) dX2_init_88 rfl ?_
  refine pf_X2_49 (pc := 89) rfl dX2_init_89 ?_
  refine sm_aload_n (pc := 92) (n := 0) dX2_init_92 rfl ?_
  exact scX2_init_93 P
noncomputable def b_X2_init {d : Nat} (P : zP d) : zK d := (xald 0 (xobj (xald 0 (xnew 17 4 (xdup (xcV 17 1 1 15 f_X1_init (xpfR 18 0 (xald 0 (xpI 5 (xpI 11 (xmnaD 4 2 (xpfR 18 1 (xald 0 (xpI 5 (xpI 11 (xmnaD 4 2 (xpfR 18 2 (xald 0 (xpI 5 (xpI 11 (xmnaD 4 2 (xpfR 18 3 (xald 0 (xpI 5 (cX2_init_50 P)))))))))))))))))))))))))
set_option maxRecDepth 100000 in
set_option maxHeartbeats 4000000 in
theorem s_X2_init {d : Nat} [zGh] (P : zP d) : zSim X_X2_init 2 P 0 (b_X2_init P) := by
  unfold b_X2_init
  refine sm_aload_n (pc := 0) (n := 0) dX2_init_0 rfl ?_
  refine sm_objinit (pc := 1) wd_545 wd_21 wd_22 (by decide) dX2_init_1 ?_
  refine sm_aload_n (pc := 4) (n := 0) dX2_init_4 rfl ?_
  refine sm_new (pc := 5) (ci := 1) (C := RX1) (T := TX1) (N := 4) (ty0 := tyX1) rfl rfl (by decide) (by decide) inz1 tyX1_ok rfl wd_546 wd_547 wd_13 dX2_init_5 ?_
  refine sm_dup (pc := 8) dX2_init_8 ?_
  refine sm_cV (pc := 9) (ci := 1) (n := 1) (mc := 1) (ms := 15) rfl m_X1_init (cr_X2_11 (X := X_X2_init) (fr := 2) (frc := 1) (pc := 9) (mc := 1) (ms := 15) rfl (by decide) dX2_init_9) ?_
  refine pf_X2_12 (pc := 12) rfl rfl dX2_init_12 ?_
  refine sm_aload_n (pc := 15) (n := 0) dX2_init_15 rfl ?_
  refine sm_iconst (pc := 16) dX2_init_16 zc_i_5 ?_
  refine sm_bipush (pc := 17) dX2_init_17 zc_b_11 ?_
  refine sm_mnaDJ (pc := 19) wd_569 wd_45 dX2_init_19 ?_
  refine pf_X2_20 (pc := 23) rfl rfl dX2_init_23 ?_
  refine sm_aload_n (pc := 26) (n := 0) dX2_init_26 rfl ?_
  refine sm_iconst (pc := 27) dX2_init_27 zc_i_5 ?_
  refine sm_bipush (pc := 28) dX2_init_28 zc_b_11 ?_
  refine sm_mnaDJ (pc := 30) wd_569 wd_45 dX2_init_30 ?_
  refine pf_X2_23 (pc := 34) rfl rfl dX2_init_34 ?_
  refine sm_aload_n (pc := 37) (n := 0) dX2_init_37 rfl ?_
  refine sm_iconst (pc := 38) dX2_init_38 zc_i_5 ?_
  refine sm_bipush (pc := 39) dX2_init_39 zc_b_11 ?_
  refine sm_mnaDJ (pc := 41) wd_569 wd_45 dX2_init_41 ?_
  refine pf_X2_26 (pc := 45) rfl rfl dX2_init_45 ?_
  refine sm_aload_n (pc := 48) (n := 0) dX2_init_48 rfl ?_
  refine sm_iconst (pc := 49) dX2_init_49 zc_i_5 ?_
  exact scX2_init_50 P
noncomputable def f_X2_init {d : Nat} : List zV → zH d → zP d → Bool := zfn 5 b_X2_init
theorem m_X2_init {d : Nat} : zMet (d := d) X_X2_init yX2_init 2 f_X2_init := zmet_mk (X := X_X2_init) (by decide) rfl rfl s_X2_init

abbrev X_X2_turnTo : zM := (RX2, cX2_turnTo, 3, none, "turnTo")
noncomputable def b_X2_turnTo {d : Nat} (P : zP d) : zK d := (xald 0 (xald 1 (xpfR 18 12 (xald 0 (xald 2 (xpfR 18 13 (xvret P)))))))
set_option maxRecDepth 100000 in
set_option maxHeartbeats 4000000 in
theorem s_X2_turnTo {d : Nat} [zGh] (P : zP d) : zSim X_X2_turnTo 1 P 0 (b_X2_turnTo P) := by
  unfold b_X2_turnTo
  refine sm_aload_n (pc := 0) (n := 0) dX2_turnTo_0 rfl ?_
  refine sm_aload_n (pc := 1) (n := 1) dX2_turnTo_1 rfl ?_
  refine pf_X2_49 (pc := 2) rfl dX2_turnTo_2 ?_
  refine sm_aload_n (pc := 5) (n := 0) dX2_turnTo_5 rfl ?_
  refine sm_aload_n (pc := 6) (n := 2) dX2_turnTo_6 rfl ?_
  refine pf_X2_53 (pc := 7) rfl dX2_turnTo_7 ?_
  exact sm_vreturn (pc := 10) dX2_turnTo_10 rfl
noncomputable def f_X2_turnTo {d : Nat} : List zV → zH d → zP d → Bool := zfn 3 b_X2_turnTo
theorem m_X2_turnTo {d : Nat} : zMet (d := d) X_X2_turnTo yX2_turnTo 1 f_X2_turnTo := zmet_mk (X := X_X2_turnTo) (by decide) rfl rfl s_X2_turnTo

abbrev X_X2_next : zM := (RX2, cX2_next, 1, (some .int), "next")
noncomputable def bX2_next_91 {d : Nat} (P : zP d) : zK d := (xiret P)
set_option maxRecDepth 100000 in
set_option maxHeartbeats 4000000 in
theorem sbX2_next_91 {d : Nat} [zGh] (P : zP d) : zSim X_X2_next 1 P 91 (bX2_next_91 P) := by
  unfold bX2_next_91
  exact sm_ireturn (pc := 91) dX2_next_91 rfl
noncomputable def bX2_next_61 {d : Nat} (P : zP d) : zK d := (xald 0 (xgfI 18 14 (xald 0 (xgfR 18 10 (xgfI 22 1 (xjoin (bX2_next_91 P) (fun j91 => (xcmp tge (xpI 4294967295 j91) (xald 0 (xgfR 18 10 (xgfR 22 0 (xald 0 (xgfI 18 14 (xald1 0 j91))))))))))))))
set_option maxRecDepth 100000 in
set_option maxHeartbeats 4000000 in
theorem sbX2_next_61 {d : Nat} [zGh] (P : zP d) : zSim X_X2_next 1 P 61 (bX2_next_61 P) := by
  unfold bX2_next_61
  refine sm_aload_n (pc := 61) (n := 0) dX2_next_61 rfl ?_
  refine gf_X2_60 (pc := 62) rfl dX2_next_62 ?_
  refine sm_aload_n (pc := 65) (n := 0) dX2_next_65 rfl ?_
  refine gf_X2_42 (pc := 66) rfl dX2_next_66 ?_
  refine gf_X2_81 (pc := 69) rfl dX2_next_69 ?_
  refine sm_join (pc := 72) (pc' := 91) (sbX2_next_91 P) (fun j91 hj91 => ?_)
  refine sm_icmp_ge (pc := 72) (tgt := 90) dX2_next_72 (by decide) ?_ ?_
  · skip
    refine sm_iconst (pc := 90) dX2_next_90 zc_i_m1 ?_
    exact hj91
  · skip
    refine sm_aload_n (pc := 75) (n := 0) dX2_next_75 rfl ?_
    refine gf_X2_42 (pc := 76) rfl dX2_next_76 ?_
    refine gf_X2_86 (pc := 79) rfl dX2_next_79 ?_
    refine sm_aload_n (pc := 82) (n := 0) dX2_next_82 rfl ?_
    refine gf_X2_60 (pc := 83) rfl dX2_next_83 ?_
    refine sm_iaload (pc := 86) dX2_next_86 ?_
    refine sm_goto (pc := 87) (tgt := 91) dX2_next_87 (by decide) ?_
    exact hj91
noncomputable def bX2_next_48 {d : Nat} (P : zP d) (r0 : zK d) : zK d := (xald 0 (xdup (xgfI 18 14 (xpI 1 (xbin zadd (xpfI 18 14 r0))))))
set_option maxRecDepth 100000 in
set_option maxHeartbeats 4000000 in
theorem sbX2_next_48 {d : Nat} [zGh] (P : zP d) (r0 : zK d) (hr0 : zSim X_X2_next 1 P 0 r0) : zSim X_X2_next 1 P 48 (bX2_next_48 P r0) := by
  unfold bX2_next_48
  refine sm_aload_n (pc := 48) (n := 0) dX2_next_48 rfl ?_
  refine sm_dup (pc := 49) dX2_next_49 ?_
  refine gf_X2_60 (pc := 50) rfl dX2_next_50 ?_
  refine sm_iconst (pc := 53) dX2_next_53 zc_i_1 ?_
  refine sm_iadd (pc := 54) dX2_next_54 ?_
  refine pf_X2_60 (pc := 55) rfl dX2_next_55 ?_
  refine sm_goto (pc := 58) (tgt := 0) dX2_next_58 (by decide) ?_
  exact hr0
noncomputable def lX2_next_0 {d : Nat} (P : zP d) (r0 : zK d) : zK d := (xald 0 (xgfI 18 14 (xald 0 (xgfR 18 10 (xgfI 22 1 (xjoin (bX2_next_61 P) (fun j61 => (xcmp tge j61 (xald 0 (xgfR 18 10 (xgfR 22 0 (xald 0 (xgfI 18 14 (xald1 0 (xpI 32 (xjoin (bX2_next_48 P r0) (fun j48 => (xcmp Nat.beq j48 (xald 0 (xgfR 18 10 (xgfR 22 0 (xald 0 (xgfI 18 14 (xald1 0 (xpI 10 (xcmp Nat.beq j48 j61))))))))))))))))))))))))))
set_option maxRecDepth 100000 in
set_option maxHeartbeats 4000000 in
theorem slX2_next_0 {d : Nat} [zGh] (P : zP d) (r0 : zK d) (hr0 : zSim X_X2_next 1 P 0 r0) : zSim X_X2_next 1 P 0 (lX2_next_0 P r0) := by
  unfold lX2_next_0
  refine sm_aload_n (pc := 0) (n := 0) dX2_next_0 rfl ?_
  refine gf_X2_60 (pc := 1) rfl dX2_next_1 ?_
  refine sm_aload_n (pc := 4) (n := 0) dX2_next_4 rfl ?_
  refine gf_X2_42 (pc := 5) rfl dX2_next_5 ?_
  refine gf_X2_81 (pc := 8) rfl dX2_next_8 ?_
  refine sm_join (pc := 11) (pc' := 61) (sbX2_next_61 P) (fun j61 hj61 => ?_)
  refine sm_icmp_ge (pc := 11) (tgt := 61) dX2_next_11 (by decide) ?_ ?_
  · skip
    exact hj61
  · skip
    refine sm_aload_n (pc := 14) (n := 0) dX2_next_14 rfl ?_
    refine gf_X2_42 (pc := 15) rfl dX2_next_15 ?_
    refine gf_X2_86 (pc := 18) rfl dX2_next_18 ?_
    refine sm_aload_n (pc := 21) (n := 0) dX2_next_21 rfl ?_
    refine gf_X2_60 (pc := 22) rfl dX2_next_22 ?_
    refine sm_iaload (pc := 25) dX2_next_25 ?_
    refine sm_bipush (pc := 26) dX2_next_26 zc_b_32 ?_
    refine sm_join (pc := 28) (pc' := 48) (sbX2_next_48 P r0 hr0) (fun j48 hj48 => ?_)
    refine sm_icmp_eq (pc := 28) (tgt := 48) dX2_next_28 (by decide) ?_ ?_
    · skip
      exact hj48
    · skip
      refine sm_aload_n (pc := 31) (n := 0) dX2_next_31 rfl ?_
      refine gf_X2_42 (pc := 32) rfl dX2_next_32 ?_
      refine gf_X2_86 (pc := 35) rfl dX2_next_35 ?_
      refine sm_aload_n (pc := 38) (n := 0) dX2_next_38 rfl ?_
      refine gf_X2_60 (pc := 39) rfl dX2_next_39 ?_
      refine sm_iaload (pc := 42) dX2_next_42 ?_
      refine sm_bipush (pc := 43) dX2_next_43 zc_b_10 ?_
      refine sm_icmp_ne (pc := 45) (tgt := 61) dX2_next_45 (by decide) ?_ ?_
      · skip
        exact hj61
      · skip
        exact hj48
noncomputable def b_X2_next {d : Nat} (P : zP d) : zK d := (xloop (fun r0 => (lX2_next_0 P r0)) 100000)
set_option maxRecDepth 100000 in
set_option maxHeartbeats 4000000 in
theorem s_X2_next {d : Nat} [zGh] (P : zP d) : zSim X_X2_next 1 P 0 (b_X2_next P) := by
  unfold b_X2_next
  exact sm_loop (fun r0 hr0 => slX2_next_0 P r0 hr0) _
noncomputable def f_X2_next {d : Nat} : List zV → zH d → zP d → Bool := zfn 1 b_X2_next
theorem m_X2_next {d : Nat} : zMet (d := d) X_X2_next yX2_next 1 f_X2_next := zmet_mk (X := X_X2_next) (by decide) rfl rfl s_X2_next

abbrev X_X2_refuse : zM := (RX2, cX2_refuse, 2, (some .boolean), "refuse")
noncomputable def b_X2_refuse {d : Nat} (P : zP d) : zK d := (xald 0 (xgfR 18 0 (xpI 1 (xild 1 (xcV 17 3 0 0 f_X1_tell (xpI 0 (xzret P)))))))
set_option maxRecDepth 100000 in
set_option maxHeartbeats 4000000 in
theorem s_X2_refuse {d : Nat} [zGh] (P : zP d) : zSim X_X2_refuse 2 P 0 (b_X2_refuse P) := by
  unfold b_X2_refuse
  refine sm_aload_n (pc := 0) (n := 0) dX2_refuse_0 rfl ?_
  refine gf_X2_12 (pc := 1) rfl dX2_refuse_1 ?_
  refine sm_iconst (pc := 4) dX2_refuse_4 zc_i_1 ?_
  refine sm_iload_n (pc := 5) (n := 1) dX2_refuse_5 rfl ?_
  refine sm_cV (pc := 6) (ci := 1) (n := 3) (mc := 0) (ms := 0) rfl m_X1_tell (cr_X2_89 (X := X_X2_refuse) (fr := 2) (frc := 1) (pc := 6) (mc := 0) (ms := 0) rfl (by decide) dX2_refuse_6) ?_
  refine sm_iconst (pc := 9) dX2_refuse_9 zc_i_0 ?_
  exact sm_zreturn (pc := 10) dX2_refuse_10 rfl
noncomputable def f_X2_refuse {d : Nat} : List zV → zH d → zP d → Bool := zfn 2 b_X2_refuse
theorem m_X2_refuse {d : Nat} : zMet (d := d) X_X2_refuse yX2_refuse 2 f_X2_refuse := zmet_mk (X := X_X2_refuse) (by decide) rfl rfl s_X2_refuse

abbrev X_X2_fail : zM := (RX2, cX2_fail, 6, (some .boolean), "fail")
noncomputable def bX2_fail_68 {d : Nat} (P : zP d) (r12 : zK d) : zK d := (xald 0 (xgfR 18 0 (xald 0 (xgfR 18 4 (xild 5 (xald1 0 (xcV 17 2 0 0 f_X1_addWithin (xinc 5 4294967295 r12))))))))
set_option maxRecDepth 100000 in
set_option maxHeartbeats 4000000 in
theorem sbX2_fail_68 {d : Nat} [zGh] (P : zP d) (r12 : zK d) (hr12 : zSim X_X2_fail 2 P 12 r12) : zSim X_X2_fail 2 P 68 (bX2_fail_68 P r12) := by
  unfold bX2_fail_68
  refine sm_aload_n (pc := 68) (n := 0) dX2_fail_68 rfl ?_
  refine gf_X2_12 (pc := 69) rfl dX2_fail_69 ?_
  refine sm_aload_n (pc := 72) (n := 0) dX2_fail_72 rfl ?_
  refine gf_X2_29 (pc := 73) rfl dX2_fail_73 ?_
  refine sm_iload (pc := 76) (n := 5) dX2_fail_76 ?_
  refine sm_iaload (pc := 78) dX2_fail_78 ?_
  refine sm_cV (pc := 79) (ci := 1) (n := 2) (mc := 0) (ms := 0) rfl m_X1_addWithin (cr_X2_93 (X := X_X2_fail) (fr := 2) (frc := 1) (pc := 79) (mc := 0) (ms := 0) rfl (by decide) dX2_fail_79) ?_
  refine sm_iinc (pc := 82) (n := 5) dX2_fail_82 zc_i_m1 ?_
  refine sm_goto (pc := 85) (tgt := 12) dX2_fail_85 (by decide) ?_
  exact hr12
noncomputable def bX2_fail_54 {d : Nat} (P : zP d) (j68 : zK d) : zK d := (xald 0 (xgfR 18 0 (xald 0 (xgfR 18 5 (xild 5 (xald1 0 (xcV 17 2 0 0 f_X1_addWithin j68)))))))
set_option maxRecDepth 100000 in
set_option maxHeartbeats 4000000 in
theorem sbX2_fail_54 {d : Nat} [zGh] (P : zP d) (j68 : zK d) (hj68 : zSim X_X2_fail 2 P 68 j68) : zSim X_X2_fail 2 P 54 (bX2_fail_54 P j68) := by
  unfold bX2_fail_54
  refine sm_aload_n (pc := 54) (n := 0) dX2_fail_54 rfl ?_
  refine gf_X2_12 (pc := 55) rfl dX2_fail_55 ?_
  refine sm_aload_n (pc := 58) (n := 0) dX2_fail_58 rfl ?_
  refine gf_X2_33 (pc := 59) rfl dX2_fail_59 ?_
  refine sm_iload (pc := 62) (n := 5) dX2_fail_62 ?_
  refine sm_iaload (pc := 64) dX2_fail_64 ?_
  refine sm_cV (pc := 65) (ci := 1) (n := 2) (mc := 0) (ms := 0) rfl m_X1_addWithin (cr_X2_93 (X := X_X2_fail) (fr := 2) (frc := 1) (pc := 65) (mc := 0) (ms := 0) rfl (by decide) dX2_fail_65) ?_
  exact hj68
noncomputable def bX2_fail_42 {d : Nat} (P : zP d) (r12 : zK d) : zK d := (xild 5 (xild 3 (xjoin (bX2_fail_68 P r12) (fun j68 => (xjoin (bX2_fail_54 P j68) (fun j54 => (xcmp tge (xild 4 (xpI 2 (xcmp Nat.beq j68 j54))) j54)))))))
set_option maxRecDepth 100000 in
set_option maxHeartbeats 4000000 in
theorem sbX2_fail_42 {d : Nat} [zGh] (P : zP d) (r12 : zK d) (hr12 : zSim X_X2_fail 2 P 12 r12) : zSim X_X2_fail 2 P 42 (bX2_fail_42 P r12) := by
  unfold bX2_fail_42
  refine sm_iload (pc := 42) (n := 5) dX2_fail_42 ?_
  refine sm_iload_n (pc := 44) (n := 3) dX2_fail_44 rfl ?_
  refine sm_join (pc := 45) (pc' := 68) (sbX2_fail_68 P r12 hr12) (fun j68 hj68 => ?_)
  refine sm_join (pc := 45) (pc' := 54) (sbX2_fail_54 P j68 hj68) (fun j54 hj54 => ?_)
  refine sm_icmp_lt (pc := 45) (tgt := 54) dX2_fail_45 (by decide) ?_ ?_
  · skip
    exact hj54
  · skip
    refine sm_iload (pc := 48) (n := 4) dX2_fail_48 ?_
    refine sm_iconst (pc := 50) dX2_fail_50 zc_i_2 ?_
    refine sm_icmp_eq (pc := 51) (tgt := 68) dX2_fail_51 (by decide) ?_ ?_
    · skip
      exact hj68
    · skip
      exact hj54
noncomputable def bX2_fail_28 {d : Nat} (P : zP d) (j42 : zK d) : zK d := (xald 0 (xgfR 18 0 (xald 0 (xgfR 18 6 (xild 5 (xald1 0 (xcV 17 2 0 0 f_X1_addWithin j42)))))))
set_option maxRecDepth 100000 in
set_option maxHeartbeats 4000000 in
theorem sbX2_fail_28 {d : Nat} [zGh] (P : zP d) (j42 : zK d) (hj42 : zSim X_X2_fail 2 P 42 j42) : zSim X_X2_fail 2 P 28 (bX2_fail_28 P j42) := by
  unfold bX2_fail_28
  refine sm_aload_n (pc := 28) (n := 0) dX2_fail_28 rfl ?_
  refine gf_X2_12 (pc := 29) rfl dX2_fail_29 ?_
  refine sm_aload_n (pc := 32) (n := 0) dX2_fail_32 rfl ?_
  refine gf_X2_36 (pc := 33) rfl dX2_fail_33 ?_
  refine sm_iload (pc := 36) (n := 5) dX2_fail_36 ?_
  refine sm_iaload (pc := 38) dX2_fail_38 ?_
  refine sm_cV (pc := 39) (ci := 1) (n := 2) (mc := 0) (ms := 0) rfl m_X1_addWithin (cr_X2_93 (X := X_X2_fail) (fr := 2) (frc := 1) (pc := 39) (mc := 0) (ms := 0) rfl (by decide) dX2_fail_39) ?_
  exact hj42
noncomputable def lX2_fail_12 {d : Nat} (P : zP d) (r12 : zK d) : zK d := (xild 5 (xif0 t0ge (xild 5 (xild 3 (xjoin (bX2_fail_42 P r12) (fun j42 => (xjoin (bX2_fail_28 P j42) (fun j28 => (xcmp tge (xild 4 (xif0 t0eq j28 j42)) j28))))))) (xpI 0 (xzret P))))
set_option maxRecDepth 100000 in
set_option maxHeartbeats 4000000 in
theorem slX2_fail_12 {d : Nat} [zGh] (P : zP d) (r12 : zK d) (hr12 : zSim X_X2_fail 2 P 12 r12) : zSim X_X2_fail 2 P 12 (lX2_fail_12 P r12) := by
  unfold lX2_fail_12
  refine sm_iload (pc := 12) (n := 5) dX2_fail_12 ?_
  refine sm_if_lt (pc := 14) (tgt := 88) dX2_fail_14 (by decide) ?_ ?_
  · skip
    refine sm_iconst (pc := 88) dX2_fail_88 zc_i_0 ?_
    exact sm_zreturn (pc := 89) dX2_fail_89 rfl
  · skip
    refine sm_iload (pc := 17) (n := 5) dX2_fail_17 ?_
    refine sm_iload_n (pc := 19) (n := 3) dX2_fail_19 rfl ?_
    refine sm_join (pc := 20) (pc' := 42) (sbX2_fail_42 P r12 hr12) (fun j42 hj42 => ?_)
    refine sm_join (pc := 20) (pc' := 28) (sbX2_fail_28 P j42 hj42) (fun j28 hj28 => ?_)
    refine sm_icmp_lt (pc := 20) (tgt := 28) dX2_fail_20 (by decide) ?_ ?_
    · skip
      exact hj28
    · skip
      refine sm_iload (pc := 23) (n := 4) dX2_fail_23 ?_
      refine sm_if_ne (pc := 25) (tgt := 42) dX2_fail_25 (by decide) ?_ ?_
      · skip
        exact hj42
      · skip
        exact hj28
noncomputable def b_X2_fail {d : Nat} (P : zP d) : zK d := (xald 0 (xgfR 18 0 (xild 1 (xild 2 (xcV 17 3 0 0 f_X1_tell (xild 3 (xist 5 (xloop (fun r12 => (lX2_fail_12 P r12)) 100000))))))))
set_option maxRecDepth 100000 in
set_option maxHeartbeats 4000000 in
theorem s_X2_fail {d : Nat} [zGh] (P : zP d) : zSim X_X2_fail 2 P 0 (b_X2_fail P) := by
  unfold b_X2_fail
  refine sm_aload_n (pc := 0) (n := 0) dX2_fail_0 rfl ?_
  refine gf_X2_12 (pc := 1) rfl dX2_fail_1 ?_
  refine sm_iload_n (pc := 4) (n := 1) dX2_fail_4 rfl ?_
  refine sm_iload_n (pc := 5) (n := 2) dX2_fail_5 rfl ?_
  refine sm_cV (pc := 6) (ci := 1) (n := 3) (mc := 0) (ms := 0) rfl m_X1_tell (cr_X2_89 (X := X_X2_fail) (fr := 2) (frc := 1) (pc := 6) (mc := 0) (ms := 0) rfl (by decide) dX2_fail_6) ?_
  refine sm_iload_n (pc := 9) (n := 3) dX2_fail_9 rfl ?_
  refine sm_istore (pc := 10) (n := 5) dX2_fail_10 ?_
  exact sm_loop (fun r12 hr12 => slX2_fail_12 P r12 hr12) _
noncomputable def f_X2_fail {d : Nat} : List zV → zH d → zP d → Bool := zfn 6 b_X2_fail
theorem m_X2_fail {d : Nat} : zMet (d := d) X_X2_fail yX2_fail 2 f_X2_fail := zmet_mk (X := X_X2_fail) (by decide) rfl rfl s_X2_fail

abbrev X_X2_isDigit : zM := (RX2, cX2_isDigit, 1, (some .boolean), "isDigit")
noncomputable def bX2_isDigit_17 {d : Nat} (P : zP d) : zK d := (xzret P)
set_option maxRecDepth 100000 in
set_option maxHeartbeats 4000000 in
theorem sbX2_isDigit_17 {d : Nat} [zGh] (P : zP d) : zSim X_X2_isDigit 1 P 17 (bX2_isDigit_17 P) := by
  unfold bX2_isDigit_17
  exact sm_zreturn (pc := 17) dX2_isDigit_17 rfl
noncomputable def bX2_isDigit_16 {d : Nat} (P : zP d) (j17 : zK d) : zK d := (xpI 0 j17)
set_option maxRecDepth 100000 in
set_option maxHeartbeats 4000000 in
theorem sbX2_isDigit_16 {d : Nat} [zGh] (P : zP d) (j17 : zK d) (hj17 : zSim X_X2_isDigit 1 P 17 j17) : zSim X_X2_isDigit 1 P 16 (bX2_isDigit_16 P j17) := by
  unfold bX2_isDigit_16
  refine sm_iconst (pc := 16) dX2_isDigit_16 zc_i_0 ?_
  exact hj17
noncomputable def b_X2_isDigit {d : Nat} (P : zP d) : zK d := (xild 0 (xpI 48 (xjoin (bX2_isDigit_17 P) (fun j17 => (xjoin (bX2_isDigit_16 P j17) (fun j16 => (xcmp tge (xild 0 (xpI 57 (xcmp tle (xpI 1 j17) j16))) j16)))))))
set_option maxRecDepth 100000 in
set_option maxHeartbeats 4000000 in
theorem s_X2_isDigit {d : Nat} [zGh] (P : zP d) : zSim X_X2_isDigit 1 P 0 (b_X2_isDigit P) := by
  unfold b_X2_isDigit
  refine sm_iload_n (pc := 0) (n := 0) dX2_isDigit_0 rfl ?_
  refine sm_bipush (pc := 1) dX2_isDigit_1 zc_b_48 ?_
  refine sm_join (pc := 3) (pc' := 17) (sbX2_isDigit_17 P) (fun j17 hj17 => ?_)
  refine sm_join (pc := 3) (pc' := 16) (sbX2_isDigit_16 P j17 hj17) (fun j16 hj16 => ?_)
  refine sm_icmp_lt (pc := 3) (tgt := 16) dX2_isDigit_3 (by decide) ?_ ?_
  · skip
    exact hj16
  · skip
    refine sm_iload_n (pc := 6) (n := 0) dX2_isDigit_6 rfl ?_
    refine sm_bipush (pc := 7) dX2_isDigit_7 zc_b_57 ?_
    refine sm_icmp_gt (pc := 9) (tgt := 16) dX2_isDigit_9 (by decide) ?_ ?_
    · skip
      exact hj16
    · skip
      refine sm_iconst (pc := 12) dX2_isDigit_12 zc_i_1 ?_
      refine sm_goto (pc := 13) (tgt := 17) dX2_isDigit_13 (by decide) ?_
      exact hj17
noncomputable def f_X2_isDigit {d : Nat} : List zV → zH d → zP d → Bool := zfn 1 b_X2_isDigit
theorem m_X2_isDigit {d : Nat} : zMet (d := d) X_X2_isDigit yX2_isDigit 1 f_X2_isDigit := zmet_mk (X := X_X2_isDigit) (by decide) rfl rfl s_X2_isDigit

abbrev X_X2_readNumber : zM := (RX2, cX2_readNumber, 4, (some .int), "readNumber")
noncomputable def bX2_readNumber_105 {d : Nat} (P : zP d) : zK d := (xald 0 (xgfR 18 0 (xpI 1 (xild 2 (xcV 17 3 0 0 f_X1_tell (xpI 4294967295 (xiret P)))))))
set_option maxRecDepth 100000 in
set_option maxHeartbeats 4000000 in
theorem sbX2_readNumber_105 {d : Nat} [zGh] (P : zP d) : zSim X_X2_readNumber 2 P 105 (bX2_readNumber_105 P) := by
  unfold bX2_readNumber_105
  refine sm_aload_n (pc := 105) (n := 0) dX2_readNumber_105 rfl ?_
  refine gf_X2_12 (pc := 106) rfl dX2_readNumber_106 ?_
  refine sm_iconst (pc := 109) dX2_readNumber_109 zc_i_1 ?_
  refine sm_iload_n (pc := 110) (n := 2) dX2_readNumber_110 rfl ?_
  refine sm_cV (pc := 111) (ci := 1) (n := 3) (mc := 0) (ms := 0) rfl m_X1_tell (cr_X2_89 (X := X_X2_readNumber) (fr := 2) (frc := 1) (pc := 111) (mc := 0) (ms := 0) rfl (by decide) dX2_readNumber_111) ?_
  refine sm_iconst (pc := 114) dX2_readNumber_114 zc_i_m1 ?_
  exact sm_ireturn (pc := 115) dX2_readNumber_115 rfl
noncomputable def bX2_readNumber_87 {d : Nat} (P : zP d) : zK d := (xald 0 (xgfI 18 14 (xild 2 (xjoin (bX2_readNumber_105 P) (fun j105 => (xcmp Nat.beq j105 (xald 0 (xgfI 18 14 (xild 2 (xbin zsub (xpI 4 (xcmp tle (xild 3 (xiret P)) j105))))))))))))
set_option maxRecDepth 100000 in
set_option maxHeartbeats 4000000 in
theorem sbX2_readNumber_87 {d : Nat} [zGh] (P : zP d) : zSim X_X2_readNumber 2 P 87 (bX2_readNumber_87 P) := by
  unfold bX2_readNumber_87
  refine sm_aload_n (pc := 87) (n := 0) dX2_readNumber_87 rfl ?_
  refine gf_X2_60 (pc := 88) rfl dX2_readNumber_88 ?_
  refine sm_iload_n (pc := 91) (n := 2) dX2_readNumber_91 rfl ?_
  refine sm_join (pc := 92) (pc' := 105) (sbX2_readNumber_105 P) (fun j105 hj105 => ?_)
  refine sm_icmp_eq (pc := 92) (tgt := 105) dX2_readNumber_92 (by decide) ?_ ?_
  · skip
    exact hj105
  · skip
    refine sm_aload_n (pc := 95) (n := 0) dX2_readNumber_95 rfl ?_
    refine gf_X2_60 (pc := 96) rfl dX2_readNumber_96 ?_
    refine sm_iload_n (pc := 99) (n := 2) dX2_readNumber_99 rfl ?_
    refine sm_isub (pc := 100) dX2_readNumber_100 ?_
    refine sm_iconst (pc := 101) dX2_readNumber_101 zc_i_4 ?_
    refine sm_icmp_le (pc := 102) (tgt := 116) dX2_readNumber_102 (by decide) ?_ ?_
    · skip
      refine sm_iload_n (pc := 116) (n := 3) dX2_readNumber_116 rfl ?_
      exact sm_ireturn (pc := 117) dX2_readNumber_117 rfl
    · skip
      exact hj105
noncomputable def bX2_readNumber_83 {d : Nat} (P : zP d) (r12 : zK d) : zK d := (xist 1 r12)
set_option maxRecDepth 100000 in
set_option maxHeartbeats 4000000 in
theorem sbX2_readNumber_83 {d : Nat} [zGh] (P : zP d) (r12 : zK d) (hr12 : zSim X_X2_readNumber 2 P 12 r12) : zSim X_X2_readNumber 2 P 83 (bX2_readNumber_83 P r12) := by
  unfold bX2_readNumber_83
  refine sm_istore_n (pc := 83) (n := 1) dX2_readNumber_83 rfl ?_
  refine sm_goto (pc := 84) (tgt := 12) dX2_readNumber_84 (by decide) ?_
  exact hr12
noncomputable def cX2_readNumber_54 {d : Nat} (P : zP d) (r12 : zK d) : zK d := (xgfI 18 14 (xald 0 (xgfR 18 10 (xgfI 22 1 (xjoin (bX2_readNumber_83 P r12) (fun j83 => (xcmp tge (xpI 4294967295 j83) (xald 0 (xgfR 18 10 (xgfR 22 0 (xald 0 (xgfI 18 14 (xald1 0 j83)))))))))))))
set_option maxRecDepth 100000 in
set_option maxHeartbeats 4000000 in
theorem scX2_readNumber_54 {d : Nat} [zGh] (P : zP d) (r12 : zK d) (hr12 : zSim X_X2_readNumber 2 P 12 r12) : zSim X_X2_readNumber 2 P 54 (cX2_readNumber_54 P r12) := by
  unfold cX2_readNumber_54
  refine gf_X2_60 (pc := 54) rfl dX2_readNumber_54 ?_
  refine sm_aload_n (pc := 57) (n := 0) dX2_readNumber_57 rfl ?_
  refine gf_X2_42 (pc := 58) rfl dX2_readNumber_58 ?_
  refine gf_X2_81 (pc := 61) rfl dX2_readNumber_61 ?_
  refine sm_join (pc := 64) (pc' := 83) (sbX2_readNumber_83 P r12 hr12) (fun j83 hj83 => ?_)
  refine sm_icmp_ge (pc := 64) (tgt := 82) dX2_readNumber_64 (by decide) ?_ ?_
  · skip
    refine sm_iconst (pc := 82) dX2_readNumber_82 zc_i_m1 ?_
    exact hj83
  · skip
    refine sm_aload_n (pc := 67) (n := 0) dX2_readNumber_67 rfl ?_
    refine gf_X2_42 (pc := 68) rfl dX2_readNumber_68 ?_
    refine gf_X2_86 (pc := 71) rfl dX2_readNumber_71 ?_
    refine sm_aload_n (pc := 74) (n := 0) dX2_readNumber_74 rfl ?_
    refine gf_X2_60 (pc := 75) rfl dX2_readNumber_75 ?_
    refine sm_iaload (pc := 78) dX2_readNumber_78 ?_
    refine sm_goto (pc := 79) (tgt := 83) dX2_readNumber_79 (by decide) ?_
    exact hj83
noncomputable def lX2_readNumber_12 {d : Nat} (P : zP d) (r12 : zK d) : zK d := (xald 0 (xgfI 18 14 (xald 0 (xgfR 18 10 (xgfI 22 1 (xjoin (bX2_readNumber_87 P) (fun j87 => (xcmp tge j87 (xild 1 (xcS 1 0 0 f_X2_isDigit (xif0 t0eq j87 (xild 3 (xpI 10 (xbin zmul (xild 1 (xbin zadd (xpI 48 (xbin zsub (xist 3 (xald 0 (xdup (xgfI 18 14 (xpI 1 (xbin zadd (xpfI 18 14 (xald 0 (cX2_readNumber_54 P r12)))))))))))))))))))))))))))
set_option maxRecDepth 100000 in
set_option maxHeartbeats 4000000 in
theorem slX2_readNumber_12 {d : Nat} [zGh] (P : zP d) (r12 : zK d) (hr12 : zSim X_X2_readNumber 2 P 12 r12) : zSim X_X2_readNumber 2 P 12 (lX2_readNumber_12 P r12) := by
  unfold lX2_readNumber_12
  refine sm_aload_n (pc := 12) (n := 0) dX2_readNumber_12 rfl ?_
  refine gf_X2_60 (pc := 13) rfl dX2_readNumber_13 ?_
  refine sm_aload_n (pc := 16) (n := 0) dX2_readNumber_16 rfl ?_
  refine gf_X2_42 (pc := 17) rfl dX2_readNumber_17 ?_
  refine gf_X2_81 (pc := 20) rfl dX2_readNumber_20 ?_
  refine sm_join (pc := 23) (pc' := 87) (sbX2_readNumber_87 P) (fun j87 hj87 => ?_)
  refine sm_icmp_ge (pc := 23) (tgt := 87) dX2_readNumber_23 (by decide) ?_ ?_
  · skip
    exact hj87
  · skip
    refine sm_iload_n (pc := 26) (n := 1) dX2_readNumber_26 rfl ?_
    refine sm_cS (pc := 27) (n := 1) (mc := 0) (ms := 0) m_X2_isDigit (cr_X2_126 (X := X_X2_readNumber) (fr := 2) (frc := 1) (pc := 27) (mc := 0) (ms := 0) rfl (by decide) dX2_readNumber_27) ?_
    refine sm_if_eq (pc := 30) (tgt := 87) dX2_readNumber_30 (by decide) ?_ ?_
    · skip
      exact hj87
    · skip
      refine sm_iload_n (pc := 33) (n := 3) dX2_readNumber_33 rfl ?_
      refine sm_bipush (pc := 34) dX2_readNumber_34 zc_b_10 ?_
      refine sm_imul (pc := 36) dX2_readNumber_36 ?_
      refine sm_iload_n (pc := 37) (n := 1) dX2_readNumber_37 rfl ?_
      refine sm_iadd (pc := 38) dX2_readNumber_38 ?_
      refine sm_bipush (pc := 39) dX2_readNumber_39 zc_b_48 ?_
      refine sm_isub (pc := 41) dX2_readNumber_41 ?_
      refine sm_istore_n (pc := 42) (n := 3) dX2_readNumber_42 rfl ?_
      refine sm_aload_n (pc := 43) (n := 0) dX2_readNumber_43 rfl ?_
      refine sm_dup (pc := 44) dX2_readNumber_44 ?_
      refine gf_X2_60 (pc := 45) rfl dX2_readNumber_45 ?_
      refine sm_iconst (pc := 48) dX2_readNumber_48 zc_i_1 ?_
      refine sm_iadd (pc := 49) dX2_readNumber_49 ?_
      refine pf_X2_60 (pc := 50) rfl dX2_readNumber_50 ?_
      refine sm_aload_n (pc := 53) (n := 0) dX2_readNumber_53 rfl ?_
      exact scX2_readNumber_54 P r12 hr12
noncomputable def b_X2_readNumber {d : Nat} (P : zP d) : zK d := (xald 0 (xcV 18 1 0 0 f_X2_next (xist 1 (xald 0 (xgfI 18 14 (xist 2 (xpI 0 (xist 3 (xloop (fun r12 => (lX2_readNumber_12 P r12)) 100000)))))))))
set_option maxRecDepth 100000 in
set_option maxHeartbeats 4000000 in
theorem s_X2_readNumber {d : Nat} [zGh] (P : zP d) : zSim X_X2_readNumber 2 P 0 (b_X2_readNumber P) := by
  unfold b_X2_readNumber
  refine sm_aload_n (pc := 0) (n := 0) dX2_readNumber_0 rfl ?_
  refine sm_cV (pc := 1) (ci := 2) (n := 1) (mc := 0) (ms := 0) rfl m_X2_next (cr_X2_74 (X := X_X2_readNumber) (fr := 2) (frc := 1) (pc := 1) (mc := 0) (ms := 0) rfl (by decide) dX2_readNumber_1) ?_
  refine sm_istore_n (pc := 4) (n := 1) dX2_readNumber_4 rfl ?_
  refine sm_aload_n (pc := 5) (n := 0) dX2_readNumber_5 rfl ?_
  refine gf_X2_60 (pc := 6) rfl dX2_readNumber_6 ?_
  refine sm_istore_n (pc := 9) (n := 2) dX2_readNumber_9 rfl ?_
  refine sm_iconst (pc := 10) dX2_readNumber_10 zc_i_0 ?_
  refine sm_istore_n (pc := 11) (n := 3) dX2_readNumber_11 rfl ?_
  exact sm_loop (fun r12 hr12 => slX2_readNumber_12 P r12 hr12) _
noncomputable def f_X2_readNumber {d : Nat} : List zV → zH d → zP d → Bool := zfn 4 b_X2_readNumber
theorem m_X2_readNumber {d : Nat} : zMet (d := d) X_X2_readNumber yX2_readNumber 2 f_X2_readNumber := zmet_mk (X := X_X2_readNumber) (by decide) rfl rfl s_X2_readNumber

abbrev X_X2_copy : zM := (RX2, cX2_copy, 4, none, "copy")
noncomputable def lX2_copy_2 {d : Nat} (P : zP d) (r2 : zK d) : zK d := (xild 3 (xald 0 (xgfR 18 12 (xgfI 23 1 (xcmp tge (xvret P) (xald 2 (xild 3 (xald 1 (xild 3 (xald1 0 (xi2l (xlas (xinc 3 1 r2)))))))))))))
set_option maxRecDepth 100000 in
set_option maxHeartbeats 4000000 in
theorem slX2_copy_2 {d : Nat} [zGh] (P : zP d) (r2 : zK d) (hr2 : zSim X_X2_copy 1 P 2 r2) : zSim X_X2_copy 1 P 2 (lX2_copy_2 P r2) := by
  unfold lX2_copy_2
  refine sm_iload_n (pc := 2) (n := 3) dX2_copy_2 rfl ?_
  refine sm_aload_n (pc := 3) (n := 0) dX2_copy_3 rfl ?_
  refine gf_X2_49 (pc := 4) rfl dX2_copy_4 ?_
  refine gf_X2_100 (pc := 7) rfl dX2_copy_7 ?_
  refine sm_icmp_ge (pc := 10) (tgt := 26) dX2_copy_10 (by decide) ?_ ?_
  · skip
    exact sm_vreturn (pc := 26) dX2_copy_26 rfl
  · skip
    refine sm_aload_n (pc := 13) (n := 2) dX2_copy_13 rfl ?_
    refine sm_iload_n (pc := 14) (n := 3) dX2_copy_14 rfl ?_
    refine sm_aload_n (pc := 15) (n := 1) dX2_copy_15 rfl ?_
    refine sm_iload_n (pc := 16) (n := 3) dX2_copy_16 rfl ?_
    refine sm_iaload (pc := 17) dX2_copy_17 ?_
    refine sm_i2l (pc := 18) dX2_copy_18 ?_
    refine sm_lastore (pc := 19) dX2_copy_19 ?_
    refine sm_iinc (pc := 20) (n := 3) dX2_copy_20 zc_i_1 ?_
    refine sm_goto (pc := 23) (tgt := 2) dX2_copy_23 (by decide) ?_
    exact hr2
noncomputable def b_X2_copy {d : Nat} (P : zP d) : zK d := (xpI 0 (xist 3 (xloop (fun r2 => (lX2_copy_2 P r2)) 100000)))
set_option maxRecDepth 100000 in
set_option maxHeartbeats 4000000 in
theorem s_X2_copy {d : Nat} [zGh] (P : zP d) : zSim X_X2_copy 1 P 0 (b_X2_copy P) := by
  unfold b_X2_copy
  refine sm_iconst (pc := 0) dX2_copy_0 zc_i_0 ?_
  refine sm_istore_n (pc := 1) (n := 3) dX2_copy_1 rfl ?_
  exact sm_loop (fun r2 hr2 => slX2_copy_2 P r2 hr2) _
noncomputable def f_X2_copy {d : Nat} : List zV → zH d → zP d → Bool := zfn 4 b_X2_copy
theorem m_X2_copy {d : Nat} : zMet (d := d) X_X2_copy yX2_copy 1 f_X2_copy := zmet_mk (X := X_X2_copy) (by decide) rfl rfl s_X2_copy

abbrev X_X2_add : zM := (RX2, cX2_add, 7, (some .boolean), "add")
noncomputable def bX2_add_60 {d : Nat} (P : zP d) : zK d := (xpI 0 (xzret P))
set_option maxRecDepth 100000 in
set_option maxHeartbeats 4000000 in
theorem sbX2_add_60 {d : Nat} [zGh] (P : zP d) : zSim X_X2_add 1 P 60 (bX2_add_60 P) := by
  unfold bX2_add_60
  refine sm_iconst (pc := 60) dX2_add_60 zc_i_0 ?_
  exact sm_zreturn (pc := 61) dX2_add_61 rfl
noncomputable def bX2_add_40 {d : Nat} (P : zP d) (r3 : zK d) : zK d := (xlst 5 (xlld 5 (xpL 1000000000000 (xlcmp (xjoin (bX2_add_60 P) (fun j60 => (xif0 t0le (xlld 5 (xpL 18446743073709551616 (xlcmp (xif0 t0ge (xald 3 (xild 4 (xlld 5 (xlas (xinc 4 1 r3))))) j60)))) j60)))))))
set_option maxRecDepth 100000 in
set_option maxHeartbeats 4000000 in
theorem sbX2_add_40 {d : Nat} [zGh] (P : zP d) (r3 : zK d) (hr3 : zSim X_X2_add 1 P 3 r3) : zSim X_X2_add 1 P 40 (bX2_add_40 P r3) := by
  unfold bX2_add_40
  refine sm_lstore (pc := 40) (n := 5) dX2_add_40 ?_
  refine sm_lload (pc := 42) (n := 5) dX2_add_42 ?_
  refine sm_ldc2 (pc := 44) dX2_add_44 wd_765 zc_cl_1000000000000 ?_
  refine sm_lcmp (pc := 47) dX2_add_47 ?_
  refine sm_join (pc := 48) (pc' := 60) (sbX2_add_60 P) (fun j60 hj60 => ?_)
  refine sm_if_gt (pc := 48) (tgt := 60) dX2_add_48 (by decide) ?_ ?_
  · skip
    exact hj60
  · skip
    refine sm_lload (pc := 51) (n := 5) dX2_add_51 ?_
    refine sm_ldc2 (pc := 53) dX2_add_53 wd_770 zc_cl_m1000000000000 ?_
    refine sm_lcmp (pc := 56) dX2_add_56 ?_
    refine sm_if_ge (pc := 57) (tgt := 62) dX2_add_57 (by decide) ?_ ?_
    · skip
      refine sm_aload_n (pc := 62) (n := 3) dX2_add_62 rfl ?_
      refine sm_iload (pc := 63) (n := 4) dX2_add_63 ?_
      refine sm_lload (pc := 65) (n := 5) dX2_add_65 ?_
      refine sm_lastore (pc := 67) dX2_add_67 ?_
      refine sm_iinc (pc := 68) (n := 4) dX2_add_68 zc_i_1 ?_
      refine sm_goto (pc := 71) (tgt := 3) dX2_add_71 (by decide) ?_
      exact hr3
    · skip
      exact hj60
noncomputable def lX2_add_3 {d : Nat} (P : zP d) (r3 : zK d) : zK d := (xild 4 (xald 0 (xgfR 18 12 (xgfI 23 1 (xcmp tge (xpI 1 (xzret P)) (xild 2 (xjoin (bX2_add_40 P r3) (fun j40 => (xif0 t0eq (xald 3 (xild 4 (xlal (xald 1 (xild 4 (xlal (xbinj zaddj j40))))))) (xald 3 (xild 4 (xlal (xald 1 (xild 4 (xlal (xbinj zsubj j40))))))))))))))))
set_option maxRecDepth 100000 in
set_option maxHeartbeats 4000000 in
theorem slX2_add_3 {d : Nat} [zGh] (P : zP d) (r3 : zK d) (hr3 : zSim X_X2_add 1 P 3 r3) : zSim X_X2_add 1 P 3 (lX2_add_3 P r3) := by
  unfold lX2_add_3
  refine sm_iload (pc := 3) (n := 4) dX2_add_3 ?_
  refine sm_aload_n (pc := 5) (n := 0) dX2_add_5 rfl ?_
  refine gf_X2_49 (pc := 6) rfl dX2_add_6 ?_
  refine gf_X2_100 (pc := 9) rfl dX2_add_9 ?_
  refine sm_icmp_ge (pc := 12) (tgt := 74) dX2_add_12 (by decide) ?_ ?_
  · skip
    refine sm_iconst (pc := 74) dX2_add_74 zc_i_1 ?_
    exact sm_zreturn (pc := 75) dX2_add_75 rfl
  · skip
    refine sm_iload_n (pc := 15) (n := 2) dX2_add_15 rfl ?_
    refine sm_join (pc := 16) (pc' := 40) (sbX2_add_40 P r3 hr3) (fun j40 hj40 => ?_)
    refine sm_if_eq (pc := 16) (tgt := 31) dX2_add_16 (by decide) ?_ ?_
    · skip
      refine sm_aload_n (pc := 31) (n := 3) dX2_add_31 rfl ?_
      refine sm_iload (pc := 32) (n := 4) dX2_add_32 ?_
      refine sm_laload (pc := 34) dX2_add_34 ?_
      refine sm_aload_n (pc := 35) (n := 1) dX2_add_35 rfl ?_
      refine sm_iload (pc := 36) (n := 4) dX2_add_36 ?_
      refine sm_laload (pc := 38) dX2_add_38 ?_
      refine sm_ladd (pc := 39) dX2_add_39 ?_
      exact hj40
    · skip
      refine sm_aload_n (pc := 19) (n := 3) dX2_add_19 rfl ?_
      refine sm_iload (pc := 20) (n := 4) dX2_add_20 ?_
      refine sm_laload (pc := 22) dX2_add_22 ?_
      refine sm_aload_n (pc := 23) (n := 1) dX2_add_23 rfl ?_
      refine sm_iload (pc := 24) (n := 4) dX2_add_24 ?_
      refine sm_laload (pc := 26) dX2_add_26 ?_
      refine sm_lsub (pc := 27) dX2_add_27 ?_
      refine sm_goto (pc := 28) (tgt := 40) dX2_add_28 (by decide) ?_
      exact hj40
noncomputable def b_X2_add {d : Nat} (P : zP d) : zK d := (xpI 0 (xist 4 (xloop (fun r3 => (lX2_add_3 P r3)) 100000)))
set_option maxRecDepth 100000 in
set_option maxHeartbeats 4000000 in
theorem s_X2_add {d : Nat} [zGh] (P : zP d) : zSim X_X2_add 1 P 0 (b_X2_add P) := by
  unfold b_X2_add
  refine sm_iconst (pc := 0) dX2_add_0 zc_i_0 ?_
  refine sm_istore (pc := 1) (n := 4) dX2_add_1 ?_
  exact sm_loop (fun r3 hr3 => slX2_add_3 P r3 hr3) _
noncomputable def f_X2_add {d : Nat} : List zV → zH d → zP d → Bool := zfn 7 b_X2_add
theorem m_X2_add {d : Nat} : zMet (d := d) X_X2_add yX2_add 1 f_X2_add := zmet_mk (X := X_X2_add) (by decide) rfl rfl s_X2_add

abbrev X_X2_multiply : zM := (RX2, cX2_multiply, 4, (some .boolean), "multiply")
noncomputable def bX2_multiply_43 {d : Nat} (P : zP d) (r2 : zK d) : zK d := (xald 2 (xild 3 (xdup2 (xlal (xald 1 (xild 3 (xlal (xbinj zmulj (xlas (xinc 3 1 r2))))))))))
set_option maxRecDepth 100000 in
set_option maxHeartbeats 4000000 in
theorem sbX2_multiply_43 {d : Nat} [zGh] (P : zP d) (r2 : zK d) (hr2 : zSim X_X2_multiply 1 P 2 r2) : zSim X_X2_multiply 1 P 43 (bX2_multiply_43 P r2) := by
  unfold bX2_multiply_43
  refine sm_aload_n (pc := 43) (n := 2) dX2_multiply_43 rfl ?_
  refine sm_iload_n (pc := 44) (n := 3) dX2_multiply_44 rfl ?_
  refine sm_dup2 (pc := 45) dX2_multiply_45 ?_
  refine sm_laload (pc := 46) dX2_multiply_46 ?_
  refine sm_aload_n (pc := 47) (n := 1) dX2_multiply_47 rfl ?_
  refine sm_iload_n (pc := 48) (n := 3) dX2_multiply_48 rfl ?_
  refine sm_laload (pc := 49) dX2_multiply_49 ?_
  refine sm_lmul (pc := 50) dX2_multiply_50 ?_
  refine sm_lastore (pc := 51) dX2_multiply_51 ?_
  refine sm_iinc (pc := 52) (n := 3) dX2_multiply_52 zc_i_1 ?_
  refine sm_goto (pc := 55) (tgt := 2) dX2_multiply_55 (by decide) ?_
  exact hr2
noncomputable def cX2_multiply_42 {d : Nat} (P : zP d) : zK d := (xzret P)
set_option maxRecDepth 100000 in
set_option maxHeartbeats 4000000 in
theorem scX2_multiply_42 {d : Nat} [zGh] (P : zP d) : zSim X_X2_multiply 1 P 42 (cX2_multiply_42 P) := by
  unfold cX2_multiply_42
  exact sm_zreturn (pc := 42) dX2_multiply_42 rfl
noncomputable def lX2_multiply_2 {d : Nat} (P : zP d) (r2 : zK d) : zK d := (xild 3 (xald 0 (xgfR 18 12 (xgfI 23 1 (xcmp tge (xpI 1 (xzret P)) (xald 1 (xild 3 (xlal (xpL 0 (xlcmp (xjoin (bX2_multiply_43 P r2) (fun j43 => (xif0 t0eq j43 (xald 2 (xild 3 (xlal (xabsj (xpL 1000000000000 (xald 1 (xild 3 (xlal (xabsj (xbinjN zdivj (xlcmp (xif0 t0le j43 (xpI 0 (cX2_multiply_42 P)))))))))))))))))))))))))))
set_option maxRecDepth 100000 in
set_option maxHeartbeats 4000000 in
theorem slX2_multiply_2 {d : Nat} [zGh] (P : zP d) (r2 : zK d) (hr2 : zSim X_X2_multiply 1 P 2 r2) : zSim X_X2_multiply 1 P 2 (lX2_multiply_2 P r2) := by
  unfold lX2_multiply_2
  refine sm_iload_n (pc := 2) (n := 3) dX2_multiply_2 rfl ?_
  refine sm_aload_n (pc := 3) (n := 0) dX2_multiply_3 rfl ?_
  refine gf_X2_49 (pc := 4) rfl dX2_multiply_4 ?_
  refine gf_X2_100 (pc := 7) rfl dX2_multiply_7 ?_
  refine sm_icmp_ge (pc := 10) (tgt := 58) dX2_multiply_10 (by decide) ?_ ?_
  · skip
    refine sm_iconst (pc := 58) dX2_multiply_58 zc_i_1 ?_
    exact sm_zreturn (pc := 59) dX2_multiply_59 rfl
  · skip
    refine sm_aload_n (pc := 13) (n := 1) dX2_multiply_13 rfl ?_
    refine sm_iload_n (pc := 14) (n := 3) dX2_multiply_14 rfl ?_
    refine sm_laload (pc := 15) dX2_multiply_15 ?_
    refine sm_lconst (pc := 16) dX2_multiply_16 zc_l_0 ?_
    refine sm_lcmp (pc := 17) dX2_multiply_17 ?_
    refine sm_join (pc := 18) (pc' := 43) (sbX2_multiply_43 P r2 hr2) (fun j43 hj43 => ?_)
    refine sm_if_eq (pc := 18) (tgt := 43) dX2_multiply_18 (by decide) ?_ ?_
    · skip
      exact hj43
    · skip
      refine sm_aload_n (pc := 21) (n := 2) dX2_multiply_21 rfl ?_
      refine sm_iload_n (pc := 22) (n := 3) dX2_multiply_22 rfl ?_
      refine sm_laload (pc := 23) dX2_multiply_23 ?_
      refine sm_mabsj (pc := 24) wd_762 wd_763 wd_6 wd_764 (by decide) dX2_multiply_24 ?_
      refine sm_ldc2 (pc := 27) dX2_multiply_27 wd_765 zc_cl_1000000000000 ?_
      refine sm_aload_n (pc := 30) (n := 1) dX2_multiply_30 rfl ?_
      refine sm_iload_n (pc := 31) (n := 3) dX2_multiply_31 rfl ?_
      refine sm_laload (pc := 32) dX2_multiply_32 ?_
      refine sm_mabsj (pc := 33) wd_762 wd_763 wd_6 wd_764 (by decide) dX2_multiply_33 ?_
      refine sm_ldiv (pc := 36) dX2_multiply_36 ?_
      refine sm_lcmp (pc := 37) dX2_multiply_37 ?_
      refine sm_if_le (pc := 38) (tgt := 43) dX2_multiply_38 (by decide) ?_ ?_
      · skip
        exact hj43
      · skip
        refine sm_iconst (pc := 41) dX2_multiply_41 zc_i_0 ?_
        exact scX2_multiply_42 P
noncomputable def b_X2_multiply {d : Nat} (P : zP d) : zK d := (xpI 0 (xist 3 (xloop (fun r2 => (lX2_multiply_2 P r2)) 100000)))
set_option maxRecDepth 100000 in
set_option maxHeartbeats 4000000 in
theorem s_X2_multiply {d : Nat} [zGh] (P : zP d) : zSim X_X2_multiply 1 P 0 (b_X2_multiply P) := by
  unfold b_X2_multiply
  refine sm_iconst (pc := 0) dX2_multiply_0 zc_i_0 ?_
  refine sm_istore_n (pc := 1) (n := 3) dX2_multiply_1 rfl ?_
  exact sm_loop (fun r2 hr2 => slX2_multiply_2 P r2 hr2) _
noncomputable def f_X2_multiply {d : Nat} : List zV → zH d → zP d → Bool := zfn 4 b_X2_multiply
theorem m_X2_multiply {d : Nat} : zMet (d := d) X_X2_multiply yX2_multiply 1 f_X2_multiply := zmet_mk (X := X_X2_multiply) (by decide) rfl rfl s_X2_multiply

abbrev X_X2_rowFor : zM := (RX2, cX2_rowFor, 3, (some (.array .int)), "rowFor")
noncomputable def bX2_rowFor_66 {d : Nat} (P : zP d) : zK d := (xald 0 (xgfR 18 12 (xgfR 23 12 (xild 2 (xaal (xaret P))))))
set_option maxRecDepth 100000 in
set_option maxHeartbeats 4000000 in
theorem sbX2_rowFor_66 {d : Nat} [zGh] (P : zP d) : zSim X_X2_rowFor 1 P 66 (bX2_rowFor_66 P) := by
  unfold bX2_rowFor_66
  refine sm_aload_n (pc := 66) (n := 0) dX2_rowFor_66 rfl ?_
  refine gf_X2_49 (pc := 67) rfl dX2_rowFor_67 ?_
  refine gf_X2_188 (pc := 70) rfl dX2_rowFor_70 ?_
  refine sm_iload_n (pc := 73) (n := 2) dX2_rowFor_73 rfl ?_
  refine sm_aaload (pc := 74) dX2_rowFor_74 ?_
  exact sm_areturn (pc := 75) dX2_rowFor_75 rfl (by first | exact Or.inl ⟨_, rfl⟩ | exact Or.inr ⟨_, rfl⟩)
noncomputable def bX2_rowFor_36 {d : Nat} (P : zP d) : zK d := (xald 0 (xgfR 18 13 (xgfR 21 6 (xild 2 (xaal (xaret P))))))
set_option maxRecDepth 100000 in
set_option maxHeartbeats 4000000 in
theorem sbX2_rowFor_36 {d : Nat} [zGh] (P : zP d) : zSim X_X2_rowFor 1 P 36 (bX2_rowFor_36 P) := by
  unfold bX2_rowFor_36
  refine sm_aload_n (pc := 36) (n := 0) dX2_rowFor_36 rfl ?_
  refine gf_X2_53 (pc := 37) rfl dX2_rowFor_37 ?_
  refine gf_X2_178 (pc := 40) rfl dX2_rowFor_40 ?_
  refine sm_iload_n (pc := 43) (n := 2) dX2_rowFor_43 rfl ?_
  refine sm_aaload (pc := 44) dX2_rowFor_44 ?_
  exact sm_areturn (pc := 45) dX2_rowFor_45 rfl (by first | exact Or.inl ⟨_, rfl⟩ | exact Or.inr ⟨_, rfl⟩)
noncomputable def bX2_rowFor_56 {d : Nat} (P : zP d) : zK d := (xald 0 (xgfR 18 12 (xgfR 23 11 (xild 2 (xaal (xaret P))))))
set_option maxRecDepth 100000 in
set_option maxHeartbeats 4000000 in
theorem sbX2_rowFor_56 {d : Nat} [zGh] (P : zP d) : zSim X_X2_rowFor 1 P 56 (bX2_rowFor_56 P) := by
  unfold bX2_rowFor_56
  refine sm_aload_n (pc := 56) (n := 0) dX2_rowFor_56 rfl ?_
  refine gf_X2_49 (pc := 57) rfl dX2_rowFor_57 ?_
  refine gf_X2_185 (pc := 60) rfl dX2_rowFor_60 ?_
  refine sm_iload_n (pc := 63) (n := 2) dX2_rowFor_63 rfl ?_
  refine sm_aaload (pc := 64) dX2_rowFor_64 ?_
  exact sm_areturn (pc := 65) dX2_rowFor_65 rfl (by first | exact Or.inl ⟨_, rfl⟩ | exact Or.inr ⟨_, rfl⟩)
noncomputable def bX2_rowFor_46 {d : Nat} (P : zP d) : zK d := (xald 0 (xgfR 18 13 (xgfR 21 9 (xild 2 (xaal (xaret P))))))
set_option maxRecDepth 100000 in
set_option maxHeartbeats 4000000 in
theorem sbX2_rowFor_46 {d : Nat} [zGh] (P : zP d) : zSim X_X2_rowFor 1 P 46 (bX2_rowFor_46 P) := by
  unfold bX2_rowFor_46
  refine sm_aload_n (pc := 46) (n := 0) dX2_rowFor_46 rfl ?_
  refine gf_X2_53 (pc := 47) rfl dX2_rowFor_47 ?_
  refine gf_X2_182 (pc := 50) rfl dX2_rowFor_50 ?_
  refine sm_iload_n (pc := 53) (n := 2) dX2_rowFor_53 rfl ?_
  refine sm_aaload (pc := 54) dX2_rowFor_54 ?_
  exact sm_areturn (pc := 55) dX2_rowFor_55 rfl (by first | exact Or.inl ⟨_, rfl⟩ | exact Or.inr ⟨_, rfl⟩)
noncomputable def b_X2_rowFor {d : Nat} (P : zP d) : zK d := (xild 1 (xlsw [(68, (bX2_rowFor_36 P)), (77, (bX2_rowFor_56 P)), (80, (bX2_rowFor_46 P))] (bX2_rowFor_66 P)))
set_option maxRecDepth 100000 in
set_option maxHeartbeats 4000000 in
theorem s_X2_rowFor {d : Nat} [zGh] (P : zP d) : zSim X_X2_rowFor 1 P 0 (b_X2_rowFor P) := by
  unfold b_X2_rowFor
  refine sm_iload_n (pc := 0) (n := 1) dX2_rowFor_0 rfl ?_
  refine sm_lsw (pc := 1) (tdf := 66) [(68, 36), (77, 56), (80, 46)] dX2_rowFor_1 (by decide +kernel) (by decide +kernel) rfl (by decide) (sbX2_rowFor_66 P) (fun i n t k ht hk => ?_)
  match i, ht, hk with
  | 0, ht, hk => cases ht; cases hk; exact sbX2_rowFor_36 P
  | 1, ht, hk => cases ht; cases hk; exact sbX2_rowFor_56 P
  | 2, ht, hk => cases ht; cases hk; exact sbX2_rowFor_46 P
  | i + 3, ht, hk => cases ht
noncomputable def f_X2_rowFor {d : Nat} : List zV → zH d → zP d → Bool := zfn 3 b_X2_rowFor
theorem m_X2_rowFor {d : Nat} : zMet (d := d) X_X2_rowFor yX2_rowFor 1 f_X2_rowFor := zmet_mk (X := X_X2_rowFor) (by decide) rfl rfl s_X2_rowFor

abbrev X_X2_takeCharacter : zM := (RX2, cX2_takeCharacter, 4, (some .boolean), "takeCharacter")
noncomputable def bX2_takeCharacter_86 {d : Nat} (P : zP d) : zK d := (xald 0 (xald 0 (xild 2 (xild 3 (xcV 18 3 0 0 f_X2_rowFor (xald 0 (xgfR 18 3 (xild 1 (xaal (xcV 18 3 0 0 f_X2_copy (xpI 1 (xzret P))))))))))))
set_option maxRecDepth 100000 in
set_option maxHeartbeats 4000000 in
theorem sbX2_takeCharacter_86 {d : Nat} [zGh] (P : zP d) : zSim X_X2_takeCharacter 3 P 86 (bX2_takeCharacter_86 P) := by
  unfold bX2_takeCharacter_86
  refine sm_aload_n (pc := 86) (n := 0) dX2_takeCharacter_86 rfl ?_
  refine sm_aload_n (pc := 87) (n := 0) dX2_takeCharacter_87 rfl ?_
  refine sm_iload_n (pc := 88) (n := 2) dX2_takeCharacter_88 rfl ?_
  refine sm_iload_n (pc := 89) (n := 3) dX2_takeCharacter_89 rfl ?_
  refine sm_cV (pc := 90) (ci := 2) (n := 3) (mc := 0) (ms := 0) rfl m_X2_rowFor (cr_X2_174 (X := X_X2_takeCharacter) (fr := 3) (frc := 1) (pc := 90) (mc := 0) (ms := 0) rfl (by decide) dX2_takeCharacter_90) ?_
  refine sm_aload_n (pc := 93) (n := 0) dX2_takeCharacter_93 rfl ?_
  refine gf_X2_26 (pc := 94) rfl dX2_takeCharacter_94 ?_
  refine sm_iload_n (pc := 97) (n := 1) dX2_takeCharacter_97 rfl ?_
  refine sm_aaload (pc := 98) dX2_takeCharacter_98 ?_
  refine sm_cV (pc := 99) (ci := 2) (n := 3) (mc := 0) (ms := 0) rfl m_X2_copy (cr_X2_143 (X := X_X2_takeCharacter) (fr := 3) (frc := 1) (pc := 99) (mc := 0) (ms := 0) rfl (by decide) dX2_takeCharacter_99) ?_
  refine sm_iconst (pc := 102) dX2_takeCharacter_102 zc_i_1 ?_
  exact sm_zreturn (pc := 103) dX2_takeCharacter_103 rfl
noncomputable def bX2_takeCharacter_61 {d : Nat} (P : zP d) (j86 : zK d) : zK d := (xald 0 (xgfR 18 13 (xild 3 (xcV 21 2 0 0 f_X5_isRegular (xif0 t0eq (xald 0 (xpI 3 (xald 0 (xgfR 18 6 (xild 1 (xald1 0 (xild 1 (xpI 0 (xcV 18 5 0 0 f_X2_fail (xzret P)))))))))) j86)))))
set_option maxRecDepth 100000 in
set_option maxHeartbeats 4000000 in
theorem sbX2_takeCharacter_61 {d : Nat} [zGh] (P : zP d) (j86 : zK d) (hj86 : zSim X_X2_takeCharacter 3 P 86 j86) : zSim X_X2_takeCharacter 3 P 61 (bX2_takeCharacter_61 P j86) := by
  unfold bX2_takeCharacter_61
  refine sm_aload_n (pc := 61) (n := 0) dX2_takeCharacter_61 rfl ?_
  refine gf_X2_53 (pc := 62) rfl dX2_takeCharacter_62 ?_
  refine sm_iload_n (pc := 65) (n := 3) dX2_takeCharacter_65 rfl ?_
  refine sm_cV (pc := 66) (ci := 5) (n := 2) (mc := 0) (ms := 0) rfl m_X5_isRegular (cr_X2_169 (X := X_X2_takeCharacter) (fr := 3) (frc := 1) (pc := 66) (mc := 0) (ms := 0) rfl (by decide) dX2_takeCharacter_66) ?_
  refine sm_if_ne (pc := 69) (tgt := 86) dX2_takeCharacter_69 (by decide) ?_ ?_
  · skip
    exact hj86
  · skip
    refine sm_aload_n (pc := 72) (n := 0) dX2_takeCharacter_72 rfl ?_
    refine sm_iconst (pc := 73) dX2_takeCharacter_73 zc_i_3 ?_
    refine sm_aload_n (pc := 74) (n := 0) dX2_takeCharacter_74 rfl ?_
    refine gf_X2_36 (pc := 75) rfl dX2_takeCharacter_75 ?_
    refine sm_iload_n (pc := 78) (n := 1) dX2_takeCharacter_78 rfl ?_
    refine sm_iaload (pc := 79) dX2_takeCharacter_79 ?_
    refine sm_iload_n (pc := 80) (n := 1) dX2_takeCharacter_80 rfl ?_
    refine sm_iconst (pc := 81) dX2_takeCharacter_81 zc_i_0 ?_
    refine sm_cV (pc := 82) (ci := 2) (n := 5) (mc := 0) (ms := 0) rfl m_X2_fail (cr_X2_115 (X := X_X2_takeCharacter) (fr := 3) (frc := 2) (pc := 82) (mc := 0) (ms := 0) rfl (by decide) dX2_takeCharacter_82) ?_
    exact sm_zreturn (pc := 85) dX2_takeCharacter_85 rfl
noncomputable def bX2_takeCharacter_31 {d : Nat} (P : zP d) : zK d := (xist 3 (xild 3 (xpI 4294967295 (xcmp Nat.beq (xald 0 (xpI 2 (xald 0 (xgfI 18 9 (xild 1 (xpI 0 (xcV 18 5 0 0 f_X2_fail (xzret P)))))))) (xild 2 (xpI 68 (xjoin (bX2_takeCharacter_86 P) (fun j86 => (xjoin (bX2_takeCharacter_61 P j86) (fun j61 => (xcmp Nat.beq j61 (xild 2 (xpI 80 (xcmp Nat.beq j61 j86))))))))))))))
set_option maxRecDepth 100000 in
set_option maxHeartbeats 4000000 in
theorem sbX2_takeCharacter_31 {d : Nat} [zGh] (P : zP d) : zSim X_X2_takeCharacter 3 P 31 (bX2_takeCharacter_31 P) := by
  unfold bX2_takeCharacter_31
  refine sm_istore_n (pc := 31) (n := 3) dX2_takeCharacter_31 rfl ?_
  refine sm_iload_n (pc := 32) (n := 3) dX2_takeCharacter_32 rfl ?_
  refine sm_iconst (pc := 33) dX2_takeCharacter_33 zc_i_m1 ?_
  refine sm_icmp_ne (pc := 34) (tgt := 49) dX2_takeCharacter_34 (by decide) ?_ ?_
  · skip
    refine sm_iload_n (pc := 49) (n := 2) dX2_takeCharacter_49 rfl ?_
    refine sm_bipush (pc := 50) dX2_takeCharacter_50 zc_b_68 ?_
    refine sm_join (pc := 52) (pc' := 86) (sbX2_takeCharacter_86 P) (fun j86 hj86 => ?_)
    refine sm_join (pc := 52) (pc' := 61) (sbX2_takeCharacter_61 P j86 hj86) (fun j61 hj61 => ?_)
    refine sm_icmp_eq (pc := 52) (tgt := 61) dX2_takeCharacter_52 (by decide) ?_ ?_
    · skip
      exact hj61
    · skip
      refine sm_iload_n (pc := 55) (n := 2) dX2_takeCharacter_55 rfl ?_
      refine sm_bipush (pc := 56) dX2_takeCharacter_56 zc_b_80 ?_
      refine sm_icmp_ne (pc := 58) (tgt := 86) dX2_takeCharacter_58 (by decide) ?_ ?_
      · skip
        exact hj86
      · skip
        exact hj61
  · skip
    refine sm_aload_n (pc := 37) (n := 0) dX2_takeCharacter_37 rfl ?_
    refine sm_iconst (pc := 38) dX2_takeCharacter_38 zc_i_2 ?_
    refine sm_aload_n (pc := 39) (n := 0) dX2_takeCharacter_39 rfl ?_
    refine gf_X2_159 (pc := 40) rfl dX2_takeCharacter_40 ?_
    refine sm_iload_n (pc := 43) (n := 1) dX2_takeCharacter_43 rfl ?_
    refine sm_iconst (pc := 44) dX2_takeCharacter_44 zc_i_0 ?_
    refine sm_cV (pc := 45) (ci := 2) (n := 5) (mc := 0) (ms := 0) rfl m_X2_fail (cr_X2_115 (X := X_X2_takeCharacter) (fr := 3) (frc := 2) (pc := 45) (mc := 0) (ms := 0) rfl (by decide) dX2_takeCharacter_45) ?_
    exact sm_zreturn (pc := 48) dX2_takeCharacter_48 rfl
noncomputable def b_X2_takeCharacter {d : Nat} (P : zP d) : zK d := (xald 0 (xgfI 18 8 (xald 0 (xgfR 18 7 (xlen (xjoin (bX2_takeCharacter_31 P) (fun j31 => (xcmp tle (xald 0 (xgfR 18 12 (xald 0 (xgfR 18 7 (xald 0 (xgfI 18 8 (xcV 23 3 0 0 f_X7_numberOf j31))))))) (xpI 4294967295 j31)))))))))
set_option maxRecDepth 100000 in
set_option maxHeartbeats 4000000 in
theorem s_X2_takeCharacter {d : Nat} [zGh] (P : zP d) : zSim X_X2_takeCharacter 3 P 0 (b_X2_takeCharacter P) := by
  unfold b_X2_takeCharacter
  refine sm_aload_n (pc := 0) (n := 0) dX2_takeCharacter_0 rfl ?_
  refine gf_X2_162 (pc := 1) rfl dX2_takeCharacter_1 ?_
  refine sm_aload_n (pc := 4) (n := 0) dX2_takeCharacter_4 rfl ?_
  refine gf_X2_39 (pc := 5) rfl dX2_takeCharacter_5 ?_
  refine sm_arraylength (pc := 8) dX2_takeCharacter_8 ?_
  refine sm_join (pc := 9) (pc' := 31) (sbX2_takeCharacter_31 P) (fun j31 hj31 => ?_)
  refine sm_icmp_gt (pc := 9) (tgt := 30) dX2_takeCharacter_9 (by decide) ?_ ?_
  · skip
    refine sm_iconst (pc := 30) dX2_takeCharacter_30 zc_i_m1 ?_
    exact hj31
  · skip
    refine sm_aload_n (pc := 12) (n := 0) dX2_takeCharacter_12 rfl ?_
    refine gf_X2_49 (pc := 13) rfl dX2_takeCharacter_13 ?_
    refine sm_aload_n (pc := 16) (n := 0) dX2_takeCharacter_16 rfl ?_
    refine gf_X2_39 (pc := 17) rfl dX2_takeCharacter_17 ?_
    refine sm_aload_n (pc := 20) (n := 0) dX2_takeCharacter_20 rfl ?_
    refine gf_X2_162 (pc := 21) rfl dX2_takeCharacter_21 ?_
    refine sm_cV (pc := 24) (ci := 7) (n := 3) (mc := 0) (ms := 0) rfl m_X7_numberOf (cr_X2_165 (X := X_X2_takeCharacter) (fr := 3) (frc := 1) (pc := 24) (mc := 0) (ms := 0) rfl (by decide) dX2_takeCharacter_24) ?_
    refine sm_goto (pc := 27) (tgt := 31) dX2_takeCharacter_27 (by decide) ?_
    exact hj31
noncomputable def f_X2_takeCharacter {d : Nat} : List zV → zH d → zP d → Bool := zfn 4 b_X2_takeCharacter
theorem m_X2_takeCharacter {d : Nat} : zMet (d := d) X_X2_takeCharacter yX2_takeCharacter 3 f_X2_takeCharacter := zmet_mk (X := X_X2_takeCharacter) (by decide) rfl rfl s_X2_takeCharacter

abbrev X_X2_readList : zM := (RX2, cX2_readList, 4, (some .boolean), "readList")
noncomputable def bX2_readList_84 {d : Nat} (P : zP d) (r33 : zK d) : zK d := (xald 0 (xdup (xgfI 18 8 (xpI 1 (xbin zadd (xpfI 18 8 (xald 0 (xcV 18 1 0 0 f_X2_next (xist 3 (xild 3 (xpI 93 (xcmp Nat.beq (xald 0 (xdup (xgfI 18 14 (xpI 1 (xbin zadd (xpfI 18 14 (xpI 1 (xzret P)))))))) (xild 3 (xpI 44 (xcmp Nat.beq (xinc 1 1 r33) (xald 0 (xald 0 (xgfI 18 14 (xcV 18 2 0 0 f_X2_refuse (xzret P))))))))))))))))))))
set_option maxRecDepth 100000 in
set_option maxHeartbeats 4000000 in
theorem sbX2_readList_84 {d : Nat} [zGh] (P : zP d) (r33 : zK d) (hr33 : zSim X_X2_readList 3 P 33 r33) : zSim X_X2_readList 3 P 84 (bX2_readList_84 P r33) := by
  unfold bX2_readList_84
  refine sm_aload_n (pc := 84) (n := 0) dX2_readList_84 rfl ?_
  refine sm_dup (pc := 85) dX2_readList_85 ?_
  refine gf_X2_162 (pc := 86) rfl dX2_readList_86 ?_
  refine sm_iconst (pc := 89) dX2_readList_89 zc_i_1 ?_
  refine sm_iadd (pc := 90) dX2_readList_90 ?_
  refine pf_X2_162 (pc := 91) rfl dX2_readList_91 ?_
  refine sm_aload_n (pc := 94) (n := 0) dX2_readList_94 rfl ?_
  refine sm_cV (pc := 95) (ci := 2) (n := 1) (mc := 0) (ms := 0) rfl m_X2_next (cr_X2_74 (X := X_X2_readList) (fr := 3) (frc := 1) (pc := 95) (mc := 0) (ms := 0) rfl (by decide) dX2_readList_95) ?_
  refine sm_istore_n (pc := 98) (n := 3) dX2_readList_98 rfl ?_
  refine sm_iload_n (pc := 99) (n := 3) dX2_readList_99 rfl ?_
  refine sm_bipush (pc := 100) dX2_readList_100 zc_b_93 ?_
  refine sm_icmp_ne (pc := 102) (tgt := 117) dX2_readList_102 (by decide) ?_ ?_
  · skip
    refine sm_iload_n (pc := 117) (n := 3) dX2_readList_117 rfl ?_
    refine sm_bipush (pc := 118) dX2_readList_118 zc_b_44 ?_
    refine sm_icmp_eq (pc := 120) (tgt := 132) dX2_readList_120 (by decide) ?_ ?_
    · skip
      refine sm_iinc (pc := 132) (n := 1) dX2_readList_132 zc_i_1 ?_
      refine sm_goto (pc := 135) (tgt := 33) dX2_readList_135 (by decide) ?_
      exact hr33
    · skip
      refine sm_aload_n (pc := 123) (n := 0) dX2_readList_123 rfl ?_
      refine sm_aload_n (pc := 124) (n := 0) dX2_readList_124 rfl ?_
      refine gf_X2_60 (pc := 125) rfl dX2_readList_125 ?_
      refine sm_cV (pc := 128) (ci := 2) (n := 2) (mc := 0) (ms := 0) rfl m_X2_refuse (cr_X2_78 (X := X_X2_readList) (fr := 3) (frc := 2) (pc := 128) (mc := 0) (ms := 0) rfl (by decide) dX2_readList_128) ?_
      exact sm_zreturn (pc := 131) dX2_readList_131 rfl
  · skip
    refine sm_aload_n (pc := 105) (n := 0) dX2_readList_105 rfl ?_
    refine sm_dup (pc := 106) dX2_readList_106 ?_
    refine gf_X2_60 (pc := 107) rfl dX2_readList_107 ?_
    refine sm_iconst (pc := 110) dX2_readList_110 zc_i_1 ?_
    refine sm_iadd (pc := 111) dX2_readList_111 ?_
    refine pf_X2_60 (pc := 112) rfl dX2_readList_112 ?_
    refine sm_iconst (pc := 115) dX2_readList_115 zc_i_1 ?_
    exact sm_zreturn (pc := 116) dX2_readList_116 rfl
noncomputable def cX2_readList_79 {d : Nat} (P : zP d) (j84 : zK d) : zK d := (xgfI 18 8 (xild 2 (xast1 0 (fun v => v) j84)))
set_option maxRecDepth 100000 in
set_option maxHeartbeats 4000000 in
theorem scX2_readList_79 {d : Nat} [zGh] (P : zP d) (j84 : zK d) (hj84 : zSim X_X2_readList 3 P 84 j84) : zSim X_X2_readList 3 P 79 (cX2_readList_79 P j84) := by
  unfold cX2_readList_79
  refine gf_X2_162 (pc := 79) rfl dX2_readList_79 ?_
  refine sm_iload_n (pc := 82) (n := 2) dX2_readList_82 rfl ?_
  refine sm_iastore (pc := 83) dX2_readList_83 ?_
  exact hj84
noncomputable def lX2_readList_33 {d : Nat} (P : zP d) (r33 : zK d) : zK d := (xild 1 (xpI 200 (xcmp tge (xald 0 (xald 0 (xgfI 18 14 (xcV 18 2 0 0 f_X2_refuse (xzret P))))) (xald 0 (xdup (xgfI 18 14 (xpI 1 (xbin zadd (xpfI 18 14 (xald 0 (xcV 18 1 0 0 f_X2_readNumber (xist 2 (xild 2 (xpI 4294967295 (xcmp Nat.beq (xpI 0 (xzret P)) (xald 0 (xgfI 18 8 (xald 0 (xgfR 18 7 (xlen (xjoin (bX2_readList_84 P r33) (fun j84 => (xcmp tge j84 (xald 0 (xgfR 18 7 (xald 0 (cX2_readList_79 P j84)))))))))))))))))))))))))))
set_option maxRecDepth 100000 in
set_option maxHeartbeats 4000000 in
theorem slX2_readList_33 {d : Nat} [zGh] (P : zP d) (r33 : zK d) (hr33 : zSim X_X2_readList 3 P 33 r33) : zSim X_X2_readList 3 P 33 (lX2_readList_33 P r33) := by
  unfold lX2_readList_33
  refine sm_iload_n (pc := 33) (n := 1) dX2_readList_33 rfl ?_
  refine sm_sipush (pc := 34) dX2_readList_34 zc_s_200 ?_
  refine sm_icmp_ge (pc := 37) (tgt := 138) dX2_readList_37 (by decide) ?_ ?_
  · skip
    refine sm_aload_n (pc := 138) (n := 0) dX2_readList_138 rfl ?_
    refine sm_aload_n (pc := 139) (n := 0) dX2_readList_139 rfl ?_
    refine gf_X2_60 (pc := 140) rfl dX2_readList_140 ?_
    refine sm_cV (pc := 143) (ci := 2) (n := 2) (mc := 0) (ms := 0) rfl m_X2_refuse (cr_X2_78 (X := X_X2_readList) (fr := 3) (frc := 2) (pc := 143) (mc := 0) (ms := 0) rfl (by decide) dX2_readList_143) ?_
    exact sm_zreturn (pc := 146) dX2_readList_146 rfl
  · skip
    refine sm_aload_n (pc := 40) (n := 0) dX2_readList_40 rfl ?_
    refine sm_dup (pc := 41) dX2_readList_41 ?_
    refine gf_X2_60 (pc := 42) rfl dX2_readList_42 ?_
    refine sm_iconst (pc := 45) dX2_readList_45 zc_i_1 ?_
    refine sm_iadd (pc := 46) dX2_readList_46 ?_
    refine pf_X2_60 (pc := 47) rfl dX2_readList_47 ?_
    refine sm_aload_n (pc := 50) (n := 0) dX2_readList_50 rfl ?_
    refine sm_cV (pc := 51) (ci := 2) (n := 1) (mc := 0) (ms := 0) rfl m_X2_readNumber (cr_X2_153 (X := X_X2_readList) (fr := 3) (frc := 2) (pc := 51) (mc := 0) (ms := 0) rfl (by decide) dX2_readList_51) ?_
    refine sm_istore_n (pc := 54) (n := 2) dX2_readList_54 rfl ?_
    refine sm_iload_n (pc := 55) (n := 2) dX2_readList_55 rfl ?_
    refine sm_iconst (pc := 56) dX2_readList_56 zc_i_m1 ?_
    refine sm_icmp_ne (pc := 57) (tgt := 62) dX2_readList_57 (by decide) ?_ ?_
    · skip
      refine sm_aload_n (pc := 62) (n := 0) dX2_readList_62 rfl ?_
      refine gf_X2_162 (pc := 63) rfl dX2_readList_63 ?_
      refine sm_aload_n (pc := 66) (n := 0) dX2_readList_66 rfl ?_
      refine gf_X2_39 (pc := 67) rfl dX2_readList_67 ?_
      refine sm_arraylength (pc := 70) dX2_readList_70 ?_
      refine sm_join (pc := 71) (pc' := 84) (sbX2_readList_84 P r33 hr33) (fun j84 hj84 => ?_)
      refine sm_icmp_ge (pc := 71) (tgt := 84) dX2_readList_71 (by decide) ?_ ?_
      · skip
        exact hj84
      · skip
        refine sm_aload_n (pc := 74) (n := 0) dX2_readList_74 rfl ?_
        refine gf_X2_39 (pc := 75) rfl dX2_readList_75 ?_
        refine sm_aload_n (pc := 78) (n := 0) dX2_readList_78 rfl ?_
        exact scX2_readList_79 P j84 hj84
    · skip
      refine sm_iconst (pc := 60) dX2_readList_60 zc_i_0 ?_
      exact sm_zreturn (pc := 61) dX2_readList_61 rfl
noncomputable def b_X2_readList {d : Nat} (P : zP d) : zK d := (xald 0 (xcV 18 1 0 0 f_X2_next (xpI 91 (xcmp Nat.beq (xald 0 (xald 0 (xgfI 18 14 (xpfI 18 9 (xald 0 (xpI 0 (xpfI 18 8 (xpI 0 (xist 1 (xloop (fun r33 => (lX2_readList_33 P r33)) 100000)))))))))) (xald 0 (xald 0 (xgfI 18 14 (xcV 18 2 0 0 f_X2_refuse (xzret P)))))))))
set_option maxRecDepth 100000 in
set_option maxHeartbeats 4000000 in
theorem s_X2_readList {d : Nat} [zGh] (P : zP d) : zSim X_X2_readList 3 P 0 (b_X2_readList P) := by
  unfold b_X2_readList
  refine sm_aload_n (pc := 0) (n := 0) dX2_readList_0 rfl ?_
  refine sm_cV (pc := 1) (ci := 2) (n := 1) (mc := 0) (ms := 0) rfl m_X2_next (cr_X2_74 (X := X_X2_readList) (fr := 3) (frc := 1) (pc := 1) (mc := 0) (ms := 0) rfl (by decide) dX2_readList_1) ?_
  refine sm_bipush (pc := 4) dX2_readList_4 zc_b_91 ?_
  refine sm_icmp_eq (pc := 6) (tgt := 18) dX2_readList_6 (by decide) ?_ ?_
  · skip
    refine sm_aload_n (pc := 18) (n := 0) dX2_readList_18 rfl ?_
    refine sm_aload_n (pc := 19) (n := 0) dX2_readList_19 rfl ?_
    refine gf_X2_60 (pc := 20) rfl dX2_readList_20 ?_
    refine pf_X2_159 (pc := 23) rfl dX2_readList_23 ?_
    refine sm_aload_n (pc := 26) (n := 0) dX2_readList_26 rfl ?_
    refine sm_iconst (pc := 27) dX2_readList_27 zc_i_0 ?_
    refine pf_X2_162 (pc := 28) rfl dX2_readList_28 ?_
    refine sm_iconst (pc := 31) dX2_readList_31 zc_i_0 ?_
    refine sm_istore_n (pc := 32) (n := 1) dX2_readList_32 rfl ?_
    exact sm_loop (fun r33 hr33 => slX2_readList_33 P r33 hr33) _
  · skip
    refine sm_aload_n (pc := 9) (n := 0) dX2_readList_9 rfl ?_
    refine sm_aload_n (pc := 10) (n := 0) dX2_readList_10 rfl ?_
    refine gf_X2_60 (pc := 11) rfl dX2_readList_11 ?_
    refine sm_cV (pc := 14) (ci := 2) (n := 2) (mc := 0) (ms := 0) rfl m_X2_refuse (cr_X2_78 (X := X_X2_readList) (fr := 3) (frc := 2) (pc := 14) (mc := 0) (ms := 0) rfl (by decide) dX2_readList_14) ?_
    exact sm_zreturn (pc := 17) dX2_readList_17 rfl
noncomputable def f_X2_readList {d : Nat} : List zV → zH d → zP d → Bool := zfn 4 b_X2_readList
theorem m_X2_readList {d : Nat} : zMet (d := d) X_X2_readList yX2_readList 3 f_X2_readList := zmet_mk (X := X_X2_readList) (by decide) rfl rfl s_X2_readList

abbrev X_X2_readConstant : zM := (RX2, cX2_readConstant, 3, (some .boolean), "readConstant")
noncomputable def b_X2_readConstant {d : Nat} (P : zP d) : zK d := (xald 0 (xcV 18 1 0 0 f_X2_readNumber (xist 2 (xild 2 (xpI 4294967295 (xcmp Nat.beq (xpI 0 (xzret P)) (xald 0 (xgfR 18 3 (xild 1 (xaal (xild 2 (xi2l (xcS 2 0 0 f_J7_fill_d0a16 (xpI 1 (xzret P)))))))))))))))
set_option maxRecDepth 100000 in
set_option maxHeartbeats 4000000 in
theorem s_X2_readConstant {d : Nat} [zGh] (P : zP d) : zSim X_X2_readConstant 3 P 0 (b_X2_readConstant P) := by
  unfold b_X2_readConstant
  refine sm_aload_n (pc := 0) (n := 0) dX2_readConstant_0 rfl ?_
  refine sm_cV (pc := 1) (ci := 2) (n := 1) (mc := 0) (ms := 0) rfl m_X2_readNumber (cr_X2_153 (X := X_X2_readConstant) (fr := 3) (frc := 2) (pc := 1) (mc := 0) (ms := 0) rfl (by decide) dX2_readConstant_1) ?_
  refine sm_istore_n (pc := 4) (n := 2) dX2_readConstant_4 rfl ?_
  refine sm_iload_n (pc := 5) (n := 2) dX2_readConstant_5 rfl ?_
  refine sm_iconst (pc := 6) dX2_readConstant_6 zc_i_m1 ?_
  refine sm_icmp_ne (pc := 7) (tgt := 12) dX2_readConstant_7 (by decide) ?_ ?_
  · skip
    refine sm_aload_n (pc := 12) (n := 0) dX2_readConstant_12 rfl ?_
    refine gf_X2_26 (pc := 13) rfl dX2_readConstant_13 ?_
    refine sm_iload_n (pc := 16) (n := 1) dX2_readConstant_16 rfl ?_
    refine sm_aaload (pc := 17) dX2_readConstant_17 ?_
    refine sm_iload_n (pc := 18) (n := 2) dX2_readConstant_18 rfl ?_
    refine sm_i2l (pc := 19) dX2_readConstant_19 ?_
    refine sm_cS (pc := 20) (n := 2) (mc := 0) (ms := 0) m_J7_fill_d0a16 (cr_X2_64 (X := X_X2_readConstant) (fr := 3) (frc := 1) (pc := 20) (mc := 0) (ms := 0) rfl (by decide) dX2_readConstant_20) ?_
    refine sm_iconst (pc := 23) dX2_readConstant_23 zc_i_1 ?_
    exact sm_zreturn (pc := 24) dX2_readConstant_24 rfl
  · skip
    refine sm_iconst (pc := 10) dX2_readConstant_10 zc_i_0 ?_
    exact sm_zreturn (pc := 11) dX2_readConstant_11 rfl
noncomputable def f_X2_readConstant {d : Nat} : List zV → zH d → zP d → Bool := zfn 3 b_X2_readConstant
theorem m_X2_readConstant {d : Nat} : zMet (d := d) X_X2_readConstant yX2_readConstant 3 f_X2_readConstant := zmet_mk (X := X_X2_readConstant) (by decide) rfl rfl s_X2_readConstant

abbrev X_X2_readSlot : zM := (RX2, cX2_readSlot, 4, (some .boolean), "readSlot")
noncomputable def cX2_readSlot_51 {d : Nat} (P : zP d) : zK d := (xpI 0 (xald 0 (xgfR 18 12 (xgfI 23 1 (xcpy 2 72 (xpI 1 (xzret P)))))))
set_option maxRecDepth 100000 in
set_option maxHeartbeats 4000000 in
theorem scX2_readSlot_51 {d : Nat} [zGh] (P : zP d) : zSim X_X2_readSlot 3 P 51 (cX2_readSlot_51 P) := by
  unfold cX2_readSlot_51
  refine sm_iconst (pc := 51) dX2_readSlot_51 zc_i_0 ?_
  refine sm_aload_n (pc := 52) (n := 0) dX2_readSlot_52 rfl ?_
  refine gf_X2_49 (pc := 53) rfl dX2_readSlot_53 ?_
  refine gf_X2_100 (pc := 56) rfl dX2_readSlot_56 ?_
  refine sm_copyJ (pc := 59) wd_753 wd_80 wd_79 wd_7 (by decide) dX2_readSlot_59 ?_
  refine sm_iconst (pc := 62) dX2_readSlot_62 zc_i_1 ?_
  exact sm_zreturn (pc := 63) dX2_readSlot_63 rfl
noncomputable def b_X2_readSlot {d : Nat} (P : zP d) : zK d := (xald 0 (xcV 18 1 0 0 f_X2_next (xpop (xald 0 (xgfI 18 14 (xist 2 (xald 0 (xcV 18 1 0 0 f_X2_readNumber (xist 3 (xild 3 (xpI 4294967295 (xcmp Nat.beq (xpI 0 (xzret P)) (xild 3 (xcS 1 0 0 f_X8_isSlot (xif0 t0eq (xald 0 (xpI 4 (xild 2 (xild 1 (xpI 0 (xcV 18 5 0 0 f_X2_fail (xzret P))))))) (xald 0 (xgfR 18 11 (xild 3 (xaal (xpI 0 (xald 0 (xgfR 18 3 (xild 1 (xaal (cX2_readSlot_51 P)))))))))))))))))))))))))
set_option maxRecDepth 100000 in
set_option maxHeartbeats 4000000 in
theorem s_X2_readSlot {d : Nat} [zGh] (P : zP d) : zSim X_X2_readSlot 3 P 0 (b_X2_readSlot P) := by
  unfold b_X2_readSlot
  refine sm_aload_n (pc := 0) (n := 0) dX2_readSlot_0 rfl ?_
  refine sm_cV (pc := 1) (ci := 2) (n := 1) (mc := 0) (ms := 0) rfl m_X2_next (cr_X2_74 (X := X_X2_readSlot) (fr := 3) (frc := 1) (pc := 1) (mc := 0) (ms := 0) rfl (by decide) dX2_readSlot_1) ?_
  refine sm_pop (pc := 4) dX2_readSlot_4 ?_
  refine sm_aload_n (pc := 5) (n := 0) dX2_readSlot_5 rfl ?_
  refine gf_X2_60 (pc := 6) rfl dX2_readSlot_6 ?_
  refine sm_istore_n (pc := 9) (n := 2) dX2_readSlot_9 rfl ?_
  refine sm_aload_n (pc := 10) (n := 0) dX2_readSlot_10 rfl ?_
  refine sm_cV (pc := 11) (ci := 2) (n := 1) (mc := 0) (ms := 0) rfl m_X2_readNumber (cr_X2_153 (X := X_X2_readSlot) (fr := 3) (frc := 2) (pc := 11) (mc := 0) (ms := 0) rfl (by decide) dX2_readSlot_11) ?_
  refine sm_istore_n (pc := 14) (n := 3) dX2_readSlot_14 rfl ?_
  refine sm_iload_n (pc := 15) (n := 3) dX2_readSlot_15 rfl ?_
  refine sm_iconst (pc := 16) dX2_readSlot_16 zc_i_m1 ?_
  refine sm_icmp_ne (pc := 17) (tgt := 22) dX2_readSlot_17 (by decide) ?_ ?_
  · skip
    refine sm_iload_n (pc := 22) (n := 3) dX2_readSlot_22 rfl ?_
    refine sm_cS (pc := 23) (n := 1) (mc := 0) (ms := 0) m_X8_isSlot (cr_X2_156 (X := X_X2_readSlot) (fr := 3) (frc := 1) (pc := 23) (mc := 0) (ms := 0) rfl (by decide) dX2_readSlot_23) ?_
    refine sm_if_ne (pc := 26) (tgt := 38) dX2_readSlot_26 (by decide) ?_ ?_
    · skip
      refine sm_aload_n (pc := 38) (n := 0) dX2_readSlot_38 rfl ?_
      refine gf_X2_46 (pc := 39) rfl dX2_readSlot_39 ?_
      refine sm_iload_n (pc := 42) (n := 3) dX2_readSlot_42 rfl ?_
      refine sm_aaload (pc := 43) dX2_readSlot_43 ?_
      refine sm_iconst (pc := 44) dX2_readSlot_44 zc_i_0 ?_
      refine sm_aload_n (pc := 45) (n := 0) dX2_readSlot_45 rfl ?_
      refine gf_X2_26 (pc := 46) rfl dX2_readSlot_46 ?_
      refine sm_iload_n (pc := 49) (n := 1) dX2_readSlot_49 rfl ?_
      refine sm_aaload (pc := 50) dX2_readSlot_50 ?_
      exact scX2_readSlot_51 P
    · skip
      refine sm_aload_n (pc := 29) (n := 0) dX2_readSlot_29 rfl ?_
      refine sm_iconst (pc := 30) dX2_readSlot_30 zc_i_4 ?_
      refine sm_iload_n (pc := 31) (n := 2) dX2_readSlot_31 rfl ?_
      refine sm_iload_n (pc := 32) (n := 1) dX2_readSlot_32 rfl ?_
      refine sm_iconst (pc := 33) dX2_readSlot_33 zc_i_0 ?_
      refine sm_cV (pc := 34) (ci := 2) (n := 5) (mc := 0) (ms := 0) rfl m_X2_fail (cr_X2_115 (X := X_X2_readSlot) (fr := 3) (frc := 2) (pc := 34) (mc := 0) (ms := 0) rfl (by decide) dX2_readSlot_34) ?_
      exact sm_zreturn (pc := 37) dX2_readSlot_37 rfl
  · skip
    refine sm_iconst (pc := 20) dX2_readSlot_20 zc_i_0 ?_
    exact sm_zreturn (pc := 21) dX2_readSlot_21 rfl
noncomputable def f_X2_readSlot {d : Nat} : List zV → zH d → zP d → Bool := zfn 4 b_X2_readSlot
theorem m_X2_readSlot {d : Nat} : zMet (d := d) X_X2_readSlot yX2_readSlot 3 f_X2_readSlot := zmet_mk (X := X_X2_readSlot) (by decide) rfl rfl s_X2_readSlot

abbrev X_X2_readSum : zM := (RX2, cX2_readSum, 5, (some .boolean), "readSum")

abbrev X_X2_readInBrackets : zM := (RX2, cX2_readInBrackets, 2, (some .boolean), "readInBrackets")
noncomputable def cX2_readInBrackets_64 {d : Nat} (self : List zV → zH d → zP d → Bool) (P : zP d) : zK d := (xpI 1 (xbin zadd (xpfI 18 14 (xald 0 (xgfR 18 1 (xild 1 (xpI 1 (xbin zadd (xaal (xpI 0 (xald 0 (xgfR 18 3 (xild 1 (xaal (xpI 0 (xald 0 (xgfR 18 12 (xgfI 23 1 (xcpy 2 72 (xpI 1 (xzret P)))))))))))))))))))))
set_option maxRecDepth 100000 in
set_option maxHeartbeats 4000000 in
theorem scX2_readInBrackets_64 {d : Nat} [zGh] (n : Nat) (self : List zV → zH d → zP d → Bool) (hself : zMet X_X2_readSum yX2_readSum (4 + 4 * n) self) (P : zP d) : zSim X_X2_readInBrackets (4 + 4 * n + 1) P 64 (cX2_readInBrackets_64 self P) := by
  unfold cX2_readInBrackets_64
  refine sm_iconst (pc := 64) dX2_readInBrackets_64 zc_i_1 ?_
  refine sm_iadd (pc := 65) dX2_readInBrackets_65 ?_
  refine pf_X2_60 (pc := 66) rfl dX2_readInBrackets_66 ?_
  refine sm_aload_n (pc := 69) (n := 0) dX2_readInBrackets_69 rfl ?_
  refine gf_X2_20 (pc := 70) rfl dX2_readInBrackets_70 ?_
  refine sm_iload_n (pc := 73) (n := 1) dX2_readInBrackets_73 rfl ?_
  refine sm_iconst (pc := 74) dX2_readInBrackets_74 zc_i_1 ?_
  refine sm_iadd (pc := 75) dX2_readInBrackets_75 ?_
  refine sm_aaload (pc := 76) dX2_readInBrackets_76 ?_
  refine sm_iconst (pc := 77) dX2_readInBrackets_77 zc_i_0 ?_
  refine sm_aload_n (pc := 78) (n := 0) dX2_readInBrackets_78 rfl ?_
  refine gf_X2_26 (pc := 79) rfl dX2_readInBrackets_79 ?_
  refine sm_iload_n (pc := 82) (n := 1) dX2_readInBrackets_82 rfl ?_
  refine sm_aaload (pc := 83) dX2_readInBrackets_83 ?_
  refine sm_iconst (pc := 84) dX2_readInBrackets_84 zc_i_0 ?_
  refine sm_aload_n (pc := 85) (n := 0) dX2_readInBrackets_85 rfl ?_
  refine gf_X2_49 (pc := 86) rfl dX2_readInBrackets_86 ?_
  refine gf_X2_100 (pc := 89) rfl dX2_readInBrackets_89 ?_
  refine sm_copyJ (pc := 92) wd_753 wd_80 wd_79 wd_7 (by omega) dX2_readInBrackets_92 ?_
  refine sm_iconst (pc := 95) dX2_readInBrackets_95 zc_i_1 ?_
  exact sm_zreturn (pc := 96) dX2_readInBrackets_96 rfl
noncomputable def cX2_readInBrackets_55 {d : Nat} (self : List zV → zH d → zP d → Bool) (P : zP d) : zK d := (xcV 18 2 0 0 f_X2_refuse (xzret P))
set_option maxRecDepth 100000 in
set_option maxHeartbeats 4000000 in
theorem scX2_readInBrackets_55 {d : Nat} [zGh] (n : Nat) (self : List zV → zH d → zP d → Bool) (hself : zMet X_X2_readSum yX2_readSum (4 + 4 * n) self) (P : zP d) : zSim X_X2_readInBrackets (4 + 4 * n + 1) P 55 (cX2_readInBrackets_55 self P) := by
  unfold cX2_readInBrackets_55
  refine sm_cV (pc := 55) (ci := 2) (n := 2) (mc := 0) (ms := 0) rfl m_X2_refuse (cr_X2_78 (X := X_X2_readInBrackets) (fr := 4 + 4 * n + 1) (frc := 2) (pc := 55) (mc := 0) (ms := 0) rfl (by omega) dX2_readInBrackets_55) ?_
  exact sm_zreturn (pc := 58) dX2_readInBrackets_58 rfl
noncomputable def b_X2_readInBrackets {d : Nat} (self : List zV → zH d → zP d → Bool) (P : zP d) : zK d := (xild 1 (xpI 1 (xbin zadd (xpI 5 (xcmp tge (xald 0 (xpI 5 (xald 0 (xgfI 18 14 (xild 1 (xpI 0 (xcV 18 5 0 0 f_X2_fail (xzret P)))))))) (xald 0 (xdup (xgfI 18 14 (xpI 1 (xbin zadd (xpfI 18 14 (xald 0 (xild 1 (xpI 1 (xbin zadd (xcV 18 2 0 0 self (xif0 t0eq (xpI 0 (xzret P)) (xald 0 (xcV 18 1 0 0 f_X2_next (xpI 41 (xcmp Nat.beq (xald 0 (xdup (xgfI 18 14 (cX2_readInBrackets_64 self P)))) (xald 0 (xald 0 (xgfI 18 14 (cX2_readInBrackets_55 self P)))))))))))))))))))))))))
set_option maxRecDepth 100000 in
set_option maxHeartbeats 4000000 in
theorem s_X2_readInBrackets {d : Nat} [zGh] (n : Nat) (self : List zV → zH d → zP d → Bool) (hself : zMet X_X2_readSum yX2_readSum (4 + 4 * n) self) (P : zP d) : zSim X_X2_readInBrackets (4 + 4 * n + 1) P 0 (b_X2_readInBrackets self P) := by
  unfold b_X2_readInBrackets
  refine sm_iload_n (pc := 0) (n := 1) dX2_readInBrackets_0 rfl ?_
  refine sm_iconst (pc := 1) dX2_readInBrackets_1 zc_i_1 ?_
  refine sm_iadd (pc := 2) dX2_readInBrackets_2 ?_
  refine sm_iconst (pc := 3) dX2_readInBrackets_3 zc_i_5 ?_
  refine sm_icmp_lt (pc := 4) (tgt := 19) dX2_readInBrackets_4 (by decide) ?_ ?_
  · skip
    refine sm_aload_n (pc := 19) (n := 0) dX2_readInBrackets_19 rfl ?_
    refine sm_dup (pc := 20) dX2_readInBrackets_20 ?_
    refine gf_X2_60 (pc := 21) rfl dX2_readInBrackets_21 ?_
    refine sm_iconst (pc := 24) dX2_readInBrackets_24 zc_i_1 ?_
    refine sm_iadd (pc := 25) dX2_readInBrackets_25 ?_
    refine pf_X2_60 (pc := 26) rfl dX2_readInBrackets_26 ?_
    refine sm_aload_n (pc := 29) (n := 0) dX2_readInBrackets_29 rfl ?_
    refine sm_iload_n (pc := 30) (n := 1) dX2_readInBrackets_30 rfl ?_
    refine sm_iconst (pc := 31) dX2_readInBrackets_31 zc_i_1 ?_
    refine sm_iadd (pc := 32) dX2_readInBrackets_32 ?_
    refine sm_cV (pc := 33) (ci := 2) (n := 2) (mc := 0) (ms := 0) rfl hself (cr_X2_70 (X := X_X2_readInBrackets) (fr := 4 + 4 * n + 1) (frc := 4 + 4 * n) (pc := 33) (mc := 0) (ms := 0) rfl (by omega) dX2_readInBrackets_33) ?_
    refine sm_if_ne (pc := 36) (tgt := 41) dX2_readInBrackets_36 (by decide) ?_ ?_
    · skip
      refine sm_aload_n (pc := 41) (n := 0) dX2_readInBrackets_41 rfl ?_
      refine sm_cV (pc := 42) (ci := 2) (n := 1) (mc := 0) (ms := 0) rfl m_X2_next (cr_X2_74 (X := X_X2_readInBrackets) (fr := 4 + 4 * n + 1) (frc := 1) (pc := 42) (mc := 0) (ms := 0) rfl (by omega) dX2_readInBrackets_42) ?_
      refine sm_bipush (pc := 45) dX2_readInBrackets_45 zc_b_41 ?_
      refine sm_icmp_eq (pc := 47) (tgt := 59) dX2_readInBrackets_47 (by decide) ?_ ?_
      · skip
        refine sm_aload_n (pc := 59) (n := 0) dX2_readInBrackets_59 rfl ?_
        refine sm_dup (pc := 60) dX2_readInBrackets_60 ?_
        refine gf_X2_60 (pc := 61) rfl dX2_readInBrackets_61 ?_
        exact scX2_readInBrackets_64 n self hself P
      · skip
        refine sm_aload_n (pc := 50) (n := 0) dX2_readInBrackets_50 rfl ?_
        refine sm_aload_n (pc := 51) (n := 0) dX2_readInBrackets_51 rfl ?_
        refine gf_X2_60 (pc := 52) rfl dX2_readInBrackets_52 ?_
        exact scX2_readInBrackets_55 n self hself P
    · skip
      refine sm_iconst (pc := 39) dX2_readInBrackets_39 zc_i_0 ?_
      exact sm_zreturn (pc := 40) dX2_readInBrackets_40 rfl
  · skip
    refine sm_aload_n (pc := 7) (n := 0) dX2_readInBrackets_7 rfl ?_
    refine sm_iconst (pc := 8) dX2_readInBrackets_8 zc_i_5 ?_
    refine sm_aload_n (pc := 9) (n := 0) dX2_readInBrackets_9 rfl ?_
    refine gf_X2_60 (pc := 10) rfl dX2_readInBrackets_10 ?_
    refine sm_iload_n (pc := 13) (n := 1) dX2_readInBrackets_13 rfl ?_
    refine sm_iconst (pc := 14) dX2_readInBrackets_14 zc_i_0 ?_
    refine sm_cV (pc := 15) (ci := 2) (n := 5) (mc := 0) (ms := 0) rfl m_X2_fail (cr_X2_115 (X := X_X2_readInBrackets) (fr := 4 + 4 * n + 1) (frc := 2) (pc := 15) (mc := 0) (ms := 0) rfl (by omega) dX2_readInBrackets_15) ?_
    exact sm_zreturn (pc := 18) dX2_readInBrackets_18 rfl
noncomputable def f_X2_readInBrackets {d : Nat} (self : List zV → zH d → zP d → Bool) : List zV → zH d → zP d → Bool := zfn 2 (b_X2_readInBrackets self)
theorem m_X2_readInBrackets {d : Nat} (n : Nat) (self : List zV → zH d → zP d → Bool) (hself : zMet X_X2_readSum yX2_readSum (4 + 4 * n) self) : zMet (d := d) X_X2_readInBrackets yX2_readInBrackets (4 + 4 * n + 1) (f_X2_readInBrackets self) := zmet_mk (X := X_X2_readInBrackets) (by decide) rfl rfl (s_X2_readInBrackets n self hself)

abbrev X_X2_readFactor : zM := (RX2, cX2_readFactor, 3, (some .boolean), "readFactor")
noncomputable def bX2_readFactor_201 {d : Nat} (self : List zV → zH d → zP d → Bool) (P : zP d) : zK d := (xald 0 (xald 0 (xgfI 18 14 (xcV 18 2 0 0 f_X2_refuse (xzret P)))))
set_option maxRecDepth 100000 in
set_option maxHeartbeats 4000000 in
theorem sbX2_readFactor_201 {d : Nat} [zGh] (n : Nat) (self : List zV → zH d → zP d → Bool) (hself : zMet X_X2_readSum yX2_readSum (4 + 4 * n) self) (P : zP d) : zSim X_X2_readFactor (4 + 4 * n + 2) P 201 (bX2_readFactor_201 self P) := by
  unfold bX2_readFactor_201
  refine sm_aload_n (pc := 201) (n := 0) dX2_readFactor_201 rfl ?_
  refine sm_aload_n (pc := 202) (n := 0) dX2_readFactor_202 rfl ?_
  refine gf_X2_60 (pc := 203) rfl dX2_readFactor_203 ?_
  refine sm_cV (pc := 206) (ci := 2) (n := 2) (mc := 0) (ms := 0) rfl m_X2_refuse (cr_X2_78 (X := X_X2_readFactor) (fr := 4 + 4 * n + 2) (frc := 2) (pc := 206) (mc := 0) (ms := 0) rfl (by omega) dX2_readFactor_206) ?_
  exact sm_zreturn (pc := 209) dX2_readFactor_209 rfl
noncomputable def bX2_readFactor_195 {d : Nat} (self : List zV → zH d → zP d → Bool) (P : zP d) : zK d := (xald 0 (xild 1 (xcV 18 2 0 0 (f_X2_readInBrackets self) (xzret P))))
set_option maxRecDepth 100000 in
set_option maxHeartbeats 4000000 in
theorem sbX2_readFactor_195 {d : Nat} [zGh] (n : Nat) (self : List zV → zH d → zP d → Bool) (hself : zMet X_X2_readSum yX2_readSum (4 + 4 * n) self) (P : zP d) : zSim X_X2_readFactor (4 + 4 * n + 2) P 195 (bX2_readFactor_195 self P) := by
  unfold bX2_readFactor_195
  refine sm_aload_n (pc := 195) (n := 0) dX2_readFactor_195 rfl ?_
  refine sm_iload_n (pc := 196) (n := 1) dX2_readFactor_196 rfl ?_
  refine sm_cV (pc := 197) (ci := 2) (n := 2) (mc := 0) (ms := 0) rfl (m_X2_readInBrackets n self hself) (cr_X2_150 (X := X_X2_readFactor) (fr := 4 + 4 * n + 2) (frc := 4 + 4 * n + 1) (pc := 197) (mc := 0) (ms := 0) rfl (by omega) dX2_readFactor_197) ?_
  exact sm_zreturn (pc := 200) dX2_readFactor_200 rfl
noncomputable def bX2_readFactor_149 {d : Nat} (self : List zV → zH d → zP d → Bool) (P : zP d) : zK d := (xzret P)
set_option maxRecDepth 100000 in
set_option maxHeartbeats 4000000 in
theorem sbX2_readFactor_149 {d : Nat} [zGh] (n : Nat) (self : List zV → zH d → zP d → Bool) (hself : zMet X_X2_readSum yX2_readSum (4 + 4 * n) self) (P : zP d) : zSim X_X2_readFactor (4 + 4 * n + 2) P 149 (bX2_readFactor_149 self P) := by
  unfold bX2_readFactor_149
  exact sm_zreturn (pc := 149) dX2_readFactor_149 rfl
noncomputable def bX2_readFactor_148 {d : Nat} (self : List zV → zH d → zP d → Bool) (P : zP d) (j149 : zK d) : zK d := (xpI 0 j149)
set_option maxRecDepth 100000 in
set_option maxHeartbeats 4000000 in
theorem sbX2_readFactor_148 {d : Nat} [zGh] (n : Nat) (self : List zV → zH d → zP d → Bool) (hself : zMet X_X2_readSum yX2_readSum (4 + 4 * n) self) (P : zP d) (j149 : zK d) (hj149 : zSim X_X2_readFactor (4 + 4 * n + 2) P 149 j149) : zSim X_X2_readFactor (4 + 4 * n + 2) P 148 (bX2_readFactor_148 self P j149) := by
  unfold bX2_readFactor_148
  refine sm_iconst (pc := 148) dX2_readFactor_148 zc_i_0 ?_
  exact hj149
noncomputable def bX2_readFactor_118 {d : Nat} (self : List zV → zH d → zP d → Bool) (P : zP d) : zK d := (xald 0 (xdup (xgfI 18 14 (xpI 1 (xbin zadd (xpfI 18 14 (xald 0 (xcV 18 1 0 0 f_X2_readList (xjoin (bX2_readFactor_149 self P) (fun j149 => (xjoin (bX2_readFactor_148 self P j149) (fun j148 => (xif0 t0eq j148 (xald 0 (xild 1 (xild 2 (xcV 18 3 0 0 f_X2_takeCharacter (xif0 t0eq j148 (xpI 1 j149)))))))))))))))))))
set_option maxRecDepth 100000 in
set_option maxHeartbeats 4000000 in
theorem sbX2_readFactor_118 {d : Nat} [zGh] (n : Nat) (self : List zV → zH d → zP d → Bool) (hself : zMet X_X2_readSum yX2_readSum (4 + 4 * n) self) (P : zP d) : zSim X_X2_readFactor (4 + 4 * n + 2) P 118 (bX2_readFactor_118 self P) := by
  unfold bX2_readFactor_118
  refine sm_aload_n (pc := 118) (n := 0) dX2_readFactor_118 rfl ?_
  refine sm_dup (pc := 119) dX2_readFactor_119 ?_
  refine gf_X2_60 (pc := 120) rfl dX2_readFactor_120 ?_
  refine sm_iconst (pc := 123) dX2_readFactor_123 zc_i_1 ?_
  refine sm_iadd (pc := 124) dX2_readFactor_124 ?_
  refine pf_X2_60 (pc := 125) rfl dX2_readFactor_125 ?_
  refine sm_aload_n (pc := 128) (n := 0) dX2_readFactor_128 rfl ?_
  refine sm_cV (pc := 129) (ci := 2) (n := 1) (mc := 0) (ms := 0) rfl m_X2_readList (cr_X2_132 (X := X_X2_readFactor) (fr := 4 + 4 * n + 2) (frc := 3) (pc := 129) (mc := 0) (ms := 0) rfl (by omega) dX2_readFactor_129) ?_
  refine sm_join (pc := 132) (pc' := 149) (sbX2_readFactor_149 n self hself P) (fun j149 hj149 => ?_)
  refine sm_join (pc := 132) (pc' := 148) (sbX2_readFactor_148 n self hself P j149 hj149) (fun j148 hj148 => ?_)
  refine sm_if_eq (pc := 132) (tgt := 148) dX2_readFactor_132 (by decide) ?_ ?_
  · skip
    exact hj148
  · skip
    refine sm_aload_n (pc := 135) (n := 0) dX2_readFactor_135 rfl ?_
    refine sm_iload_n (pc := 136) (n := 1) dX2_readFactor_136 rfl ?_
    refine sm_iload_n (pc := 137) (n := 2) dX2_readFactor_137 rfl ?_
    refine sm_cV (pc := 138) (ci := 2) (n := 3) (mc := 0) (ms := 0) rfl m_X2_takeCharacter (cr_X2_136 (X := X_X2_readFactor) (fr := 4 + 4 * n + 2) (frc := 3) (pc := 138) (mc := 0) (ms := 0) rfl (by omega) dX2_readFactor_138) ?_
    refine sm_if_eq (pc := 141) (tgt := 148) dX2_readFactor_141 (by decide) ?_ ?_
    · skip
      exact hj148
    · skip
      refine sm_iconst (pc := 144) dX2_readFactor_144 zc_i_1 ?_
      refine sm_goto (pc := 145) (tgt := 149) dX2_readFactor_145 (by decide) ?_
      exact hj149
noncomputable def bX2_readFactor_149_2 {d : Nat} (self : List zV → zH d → zP d → Bool) (P : zP d) : zK d := (xzret P)
set_option maxRecDepth 100000 in
set_option maxHeartbeats 4000000 in
theorem sbX2_readFactor_149_2 {d : Nat} [zGh] (n : Nat) (self : List zV → zH d → zP d → Bool) (hself : zMet X_X2_readSum yX2_readSum (4 + 4 * n) self) (P : zP d) : zSim X_X2_readFactor (4 + 4 * n + 2) P 149 (bX2_readFactor_149_2 self P) := by
  unfold bX2_readFactor_149_2
  exact sm_zreturn (pc := 149) dX2_readFactor_149 rfl
noncomputable def bX2_readFactor_148_2 {d : Nat} (self : List zV → zH d → zP d → Bool) (P : zP d) (j149 : zK d) : zK d := (xpI 0 j149)
set_option maxRecDepth 100000 in
set_option maxHeartbeats 4000000 in
theorem sbX2_readFactor_148_2 {d : Nat} [zGh] (n : Nat) (self : List zV → zH d → zP d → Bool) (hself : zMet X_X2_readSum yX2_readSum (4 + 4 * n) self) (P : zP d) (j149 : zK d) (hj149 : zSim X_X2_readFactor (4 + 4 * n + 2) P 149 j149) : zSim X_X2_readFactor (4 + 4 * n + 2) P 148 (bX2_readFactor_148_2 self P j149) := by
  unfold bX2_readFactor_148_2
  refine sm_iconst (pc := 148) dX2_readFactor_148 zc_i_0 ?_
  exact hj149
noncomputable def bX2_readFactor_118_2 {d : Nat} (self : List zV → zH d → zP d → Bool) (P : zP d) : zK d := (xald 0 (xdup (xgfI 18 14 (xpI 1 (xbin zadd (xpfI 18 14 (xald 0 (xcV 18 1 0 0 f_X2_readList (xjoin (bX2_readFactor_149_2 self P) (fun j149 => (xjoin (bX2_readFactor_148_2 self P j149) (fun j148 => (xif0 t0eq j148 (xald 0 (xild 1 (xild 2 (xcV 18 3 0 0 f_X2_takeCharacter (xif0 t0eq j148 (xpI 1 j149)))))))))))))))))))
set_option maxRecDepth 100000 in
set_option maxHeartbeats 4000000 in
theorem sbX2_readFactor_118_2 {d : Nat} [zGh] (n : Nat) (self : List zV → zH d → zP d → Bool) (hself : zMet X_X2_readSum yX2_readSum (4 + 4 * n) self) (P : zP d) : zSim X_X2_readFactor (4 + 4 * n + 2) P 118 (bX2_readFactor_118_2 self P) := by
  unfold bX2_readFactor_118_2
  refine sm_aload_n (pc := 118) (n := 0) dX2_readFactor_118 rfl ?_
  refine sm_dup (pc := 119) dX2_readFactor_119 ?_
  refine gf_X2_60 (pc := 120) rfl dX2_readFactor_120 ?_
  refine sm_iconst (pc := 123) dX2_readFactor_123 zc_i_1 ?_
  refine sm_iadd (pc := 124) dX2_readFactor_124 ?_
  refine pf_X2_60 (pc := 125) rfl dX2_readFactor_125 ?_
  refine sm_aload_n (pc := 128) (n := 0) dX2_readFactor_128 rfl ?_
  refine sm_cV (pc := 129) (ci := 2) (n := 1) (mc := 0) (ms := 0) rfl m_X2_readList (cr_X2_132 (X := X_X2_readFactor) (fr := 4 + 4 * n + 2) (frc := 3) (pc := 129) (mc := 0) (ms := 0) rfl (by omega) dX2_readFactor_129) ?_
  refine sm_join (pc := 132) (pc' := 149) (sbX2_readFactor_149_2 n self hself P) (fun j149 hj149 => ?_)
  refine sm_join (pc := 132) (pc' := 148) (sbX2_readFactor_148_2 n self hself P j149 hj149) (fun j148 hj148 => ?_)
  refine sm_if_eq (pc := 132) (tgt := 148) dX2_readFactor_132 (by decide) ?_ ?_
  · skip
    exact hj148
  · skip
    refine sm_aload_n (pc := 135) (n := 0) dX2_readFactor_135 rfl ?_
    refine sm_iload_n (pc := 136) (n := 1) dX2_readFactor_136 rfl ?_
    refine sm_iload_n (pc := 137) (n := 2) dX2_readFactor_137 rfl ?_
    refine sm_cV (pc := 138) (ci := 2) (n := 3) (mc := 0) (ms := 0) rfl m_X2_takeCharacter (cr_X2_136 (X := X_X2_readFactor) (fr := 4 + 4 * n + 2) (frc := 3) (pc := 138) (mc := 0) (ms := 0) rfl (by omega) dX2_readFactor_138) ?_
    refine sm_if_eq (pc := 141) (tgt := 148) dX2_readFactor_141 (by decide) ?_ ?_
    · skip
      exact hj148
    · skip
      refine sm_iconst (pc := 144) dX2_readFactor_144 zc_i_1 ?_
      refine sm_goto (pc := 145) (tgt := 149) dX2_readFactor_145 (by decide) ?_
      exact hj149
noncomputable def bX2_readFactor_149_3 {d : Nat} (self : List zV → zH d → zP d → Bool) (P : zP d) : zK d := (xzret P)
set_option maxRecDepth 100000 in
set_option maxHeartbeats 4000000 in
theorem sbX2_readFactor_149_3 {d : Nat} [zGh] (n : Nat) (self : List zV → zH d → zP d → Bool) (hself : zMet X_X2_readSum yX2_readSum (4 + 4 * n) self) (P : zP d) : zSim X_X2_readFactor (4 + 4 * n + 2) P 149 (bX2_readFactor_149_3 self P) := by
  unfold bX2_readFactor_149_3
  exact sm_zreturn (pc := 149) dX2_readFactor_149 rfl
noncomputable def bX2_readFactor_148_3 {d : Nat} (self : List zV → zH d → zP d → Bool) (P : zP d) (j149 : zK d) : zK d := (xpI 0 j149)
set_option maxRecDepth 100000 in
set_option maxHeartbeats 4000000 in
theorem sbX2_readFactor_148_3 {d : Nat} [zGh] (n : Nat) (self : List zV → zH d → zP d → Bool) (hself : zMet X_X2_readSum yX2_readSum (4 + 4 * n) self) (P : zP d) (j149 : zK d) (hj149 : zSim X_X2_readFactor (4 + 4 * n + 2) P 149 j149) : zSim X_X2_readFactor (4 + 4 * n + 2) P 148 (bX2_readFactor_148_3 self P j149) := by
  unfold bX2_readFactor_148_3
  refine sm_iconst (pc := 148) dX2_readFactor_148 zc_i_0 ?_
  exact hj149
noncomputable def bX2_readFactor_118_3 {d : Nat} (self : List zV → zH d → zP d → Bool) (P : zP d) : zK d := (xald 0 (xdup (xgfI 18 14 (xpI 1 (xbin zadd (xpfI 18 14 (xald 0 (xcV 18 1 0 0 f_X2_readList (xjoin (bX2_readFactor_149_3 self P) (fun j149 => (xjoin (bX2_readFactor_148_3 self P j149) (fun j148 => (xif0 t0eq j148 (xald 0 (xild 1 (xild 2 (xcV 18 3 0 0 f_X2_takeCharacter (xif0 t0eq j148 (xpI 1 j149)))))))))))))))))))
set_option maxRecDepth 100000 in
set_option maxHeartbeats 4000000 in
theorem sbX2_readFactor_118_3 {d : Nat} [zGh] (n : Nat) (self : List zV → zH d → zP d → Bool) (hself : zMet X_X2_readSum yX2_readSum (4 + 4 * n) self) (P : zP d) : zSim X_X2_readFactor (4 + 4 * n + 2) P 118 (bX2_readFactor_118_3 self P) := by
  unfold bX2_readFactor_118_3
  refine sm_aload_n (pc := 118) (n := 0) dX2_readFactor_118 rfl ?_
  refine sm_dup (pc := 119) dX2_readFactor_119 ?_
  refine gf_X2_60 (pc := 120) rfl dX2_readFactor_120 ?_
  refine sm_iconst (pc := 123) dX2_readFactor_123 zc_i_1 ?_
  refine sm_iadd (pc := 124) dX2_readFactor_124 ?_
  refine pf_X2_60 (pc := 125) rfl dX2_readFactor_125 ?_
  refine sm_aload_n (pc := 128) (n := 0) dX2_readFactor_128 rfl ?_
  refine sm_cV (pc := 129) (ci := 2) (n := 1) (mc := 0) (ms := 0) rfl m_X2_readList (cr_X2_132 (X := X_X2_readFactor) (fr := 4 + 4 * n + 2) (frc := 3) (pc := 129) (mc := 0) (ms := 0) rfl (by omega) dX2_readFactor_129) ?_
  refine sm_join (pc := 132) (pc' := 149) (sbX2_readFactor_149_3 n self hself P) (fun j149 hj149 => ?_)
  refine sm_join (pc := 132) (pc' := 148) (sbX2_readFactor_148_3 n self hself P j149 hj149) (fun j148 hj148 => ?_)
  refine sm_if_eq (pc := 132) (tgt := 148) dX2_readFactor_132 (by decide) ?_ ?_
  · skip
    exact hj148
  · skip
    refine sm_aload_n (pc := 135) (n := 0) dX2_readFactor_135 rfl ?_
    refine sm_iload_n (pc := 136) (n := 1) dX2_readFactor_136 rfl ?_
    refine sm_iload_n (pc := 137) (n := 2) dX2_readFactor_137 rfl ?_
    refine sm_cV (pc := 138) (ci := 2) (n := 3) (mc := 0) (ms := 0) rfl m_X2_takeCharacter (cr_X2_136 (X := X_X2_readFactor) (fr := 4 + 4 * n + 2) (frc := 3) (pc := 138) (mc := 0) (ms := 0) rfl (by omega) dX2_readFactor_138) ?_
    refine sm_if_eq (pc := 141) (tgt := 148) dX2_readFactor_141 (by decide) ?_ ?_
    · skip
      exact hj148
    · skip
      refine sm_iconst (pc := 144) dX2_readFactor_144 zc_i_1 ?_
      refine sm_goto (pc := 145) (tgt := 149) dX2_readFactor_145 (by decide) ?_
      exact hj149
noncomputable def bX2_readFactor_150 {d : Nat} (self : List zV → zH d → zP d → Bool) (P : zP d) : zK d := (xald 0 (xdup (xgfI 18 14 (xpI 1 (xbin zadd (xpfI 18 14 (xald 0 (xald 0 (xgfR 18 12 (xgfR 23 7 (xald 0 (xgfR 18 3 (xild 1 (xaal (xcV 18 3 0 0 f_X2_copy (xpI 1 (xzret P)))))))))))))))))
set_option maxRecDepth 100000 in
set_option maxHeartbeats 4000000 in
theorem sbX2_readFactor_150 {d : Nat} [zGh] (n : Nat) (self : List zV → zH d → zP d → Bool) (hself : zMet X_X2_readSum yX2_readSum (4 + 4 * n) self) (P : zP d) : zSim X_X2_readFactor (4 + 4 * n + 2) P 150 (bX2_readFactor_150 self P) := by
  unfold bX2_readFactor_150
  refine sm_aload_n (pc := 150) (n := 0) dX2_readFactor_150 rfl ?_
  refine sm_dup (pc := 151) dX2_readFactor_151 ?_
  refine gf_X2_60 (pc := 152) rfl dX2_readFactor_152 ?_
  refine sm_iconst (pc := 155) dX2_readFactor_155 zc_i_1 ?_
  refine sm_iadd (pc := 156) dX2_readFactor_156 ?_
  refine pf_X2_60 (pc := 157) rfl dX2_readFactor_157 ?_
  refine sm_aload_n (pc := 160) (n := 0) dX2_readFactor_160 rfl ?_
  refine sm_aload_n (pc := 161) (n := 0) dX2_readFactor_161 rfl ?_
  refine gf_X2_49 (pc := 162) rfl dX2_readFactor_162 ?_
  refine gf_X2_140 (pc := 165) rfl dX2_readFactor_165 ?_
  refine sm_aload_n (pc := 168) (n := 0) dX2_readFactor_168 rfl ?_
  refine gf_X2_26 (pc := 169) rfl dX2_readFactor_169 ?_
  refine sm_iload_n (pc := 172) (n := 1) dX2_readFactor_172 rfl ?_
  refine sm_aaload (pc := 173) dX2_readFactor_173 ?_
  refine sm_cV (pc := 174) (ci := 2) (n := 3) (mc := 0) (ms := 0) rfl m_X2_copy (cr_X2_143 (X := X_X2_readFactor) (fr := 4 + 4 * n + 2) (frc := 1) (pc := 174) (mc := 0) (ms := 0) rfl (by omega) dX2_readFactor_174) ?_
  refine sm_iconst (pc := 177) dX2_readFactor_177 zc_i_1 ?_
  exact sm_zreturn (pc := 178) dX2_readFactor_178 rfl
noncomputable def bX2_readFactor_179 {d : Nat} (self : List zV → zH d → zP d → Bool) (P : zP d) : zK d := (xald 0 (xdup (xgfI 18 14 (xpI 1 (xbin zadd (xpfI 18 14 (xald 0 (xild 1 (xcV 18 2 0 0 f_X2_readSlot (xzret P))))))))))
set_option maxRecDepth 100000 in
set_option maxHeartbeats 4000000 in
theorem sbX2_readFactor_179 {d : Nat} [zGh] (n : Nat) (self : List zV → zH d → zP d → Bool) (hself : zMet X_X2_readSum yX2_readSum (4 + 4 * n) self) (P : zP d) : zSim X_X2_readFactor (4 + 4 * n + 2) P 179 (bX2_readFactor_179 self P) := by
  unfold bX2_readFactor_179
  refine sm_aload_n (pc := 179) (n := 0) dX2_readFactor_179 rfl ?_
  refine sm_dup (pc := 180) dX2_readFactor_180 ?_
  refine gf_X2_60 (pc := 181) rfl dX2_readFactor_181 ?_
  refine sm_iconst (pc := 184) dX2_readFactor_184 zc_i_1 ?_
  refine sm_iadd (pc := 185) dX2_readFactor_185 ?_
  refine pf_X2_60 (pc := 186) rfl dX2_readFactor_186 ?_
  refine sm_aload_n (pc := 189) (n := 0) dX2_readFactor_189 rfl ?_
  refine sm_iload_n (pc := 190) (n := 1) dX2_readFactor_190 rfl ?_
  refine sm_cV (pc := 191) (ci := 2) (n := 2) (mc := 0) (ms := 0) rfl m_X2_readSlot (cr_X2_147 (X := X_X2_readFactor) (fr := 4 + 4 * n + 2) (frc := 3) (pc := 191) (mc := 0) (ms := 0) rfl (by omega) dX2_readFactor_191) ?_
  exact sm_zreturn (pc := 194) dX2_readFactor_194 rfl
noncomputable def bX2_readFactor_117 {d : Nat} (self : List zV → zH d → zP d → Bool) (P : zP d) : zK d := (xzret P)
set_option maxRecDepth 100000 in
set_option maxHeartbeats 4000000 in
theorem sbX2_readFactor_117 {d : Nat} [zGh] (n : Nat) (self : List zV → zH d → zP d → Bool) (hself : zMet X_X2_readSum yX2_readSum (4 + 4 * n) self) (P : zP d) : zSim X_X2_readFactor (4 + 4 * n + 2) P 117 (bX2_readFactor_117 self P) := by
  unfold bX2_readFactor_117
  exact sm_zreturn (pc := 117) dX2_readFactor_117 rfl
noncomputable def bX2_readFactor_116 {d : Nat} (self : List zV → zH d → zP d → Bool) (P : zP d) (j117 : zK d) : zK d := (xpI 0 j117)
set_option maxRecDepth 100000 in
set_option maxHeartbeats 4000000 in
theorem sbX2_readFactor_116 {d : Nat} [zGh] (n : Nat) (self : List zV → zH d → zP d → Bool) (hself : zMet X_X2_readSum yX2_readSum (4 + 4 * n) self) (P : zP d) (j117 : zK d) (hj117 : zSim X_X2_readFactor (4 + 4 * n + 2) P 117 j117) : zSim X_X2_readFactor (4 + 4 * n + 2) P 116 (bX2_readFactor_116 self P j117) := by
  unfold bX2_readFactor_116
  refine sm_iconst (pc := 116) dX2_readFactor_116 zc_i_0 ?_
  exact hj117
noncomputable def bX2_readFactor_96 {d : Nat} (self : List zV → zH d → zP d → Bool) (P : zP d) : zK d := (xald 0 (xcV 18 1 0 0 f_X2_readList (xjoin (bX2_readFactor_117 self P) (fun j117 => (xjoin (bX2_readFactor_116 self P j117) (fun j116 => (xif0 t0eq j116 (xald 0 (xild 1 (xild 2 (xcV 18 3 0 0 f_X2_takeCharacter (xif0 t0eq j116 (xpI 1 j117)))))))))))))
set_option maxRecDepth 100000 in
set_option maxHeartbeats 4000000 in
theorem sbX2_readFactor_96 {d : Nat} [zGh] (n : Nat) (self : List zV → zH d → zP d → Bool) (hself : zMet X_X2_readSum yX2_readSum (4 + 4 * n) self) (P : zP d) : zSim X_X2_readFactor (4 + 4 * n + 2) P 96 (bX2_readFactor_96 self P) := by
  unfold bX2_readFactor_96
  refine sm_aload_n (pc := 96) (n := 0) dX2_readFactor_96 rfl ?_
  refine sm_cV (pc := 97) (ci := 2) (n := 1) (mc := 0) (ms := 0) rfl m_X2_readList (cr_X2_132 (X := X_X2_readFactor) (fr := 4 + 4 * n + 2) (frc := 3) (pc := 97) (mc := 0) (ms := 0) rfl (by omega) dX2_readFactor_97) ?_
  refine sm_join (pc := 100) (pc' := 117) (sbX2_readFactor_117 n self hself P) (fun j117 hj117 => ?_)
  refine sm_join (pc := 100) (pc' := 116) (sbX2_readFactor_116 n self hself P j117 hj117) (fun j116 hj116 => ?_)
  refine sm_if_eq (pc := 100) (tgt := 116) dX2_readFactor_100 (by decide) ?_ ?_
  · skip
    exact hj116
  · skip
    refine sm_aload_n (pc := 103) (n := 0) dX2_readFactor_103 rfl ?_
    refine sm_iload_n (pc := 104) (n := 1) dX2_readFactor_104 rfl ?_
    refine sm_iload_n (pc := 105) (n := 2) dX2_readFactor_105 rfl ?_
    refine sm_cV (pc := 106) (ci := 2) (n := 3) (mc := 0) (ms := 0) rfl m_X2_takeCharacter (cr_X2_136 (X := X_X2_readFactor) (fr := 4 + 4 * n + 2) (frc := 3) (pc := 106) (mc := 0) (ms := 0) rfl (by omega) dX2_readFactor_106) ?_
    refine sm_if_eq (pc := 109) (tgt := 116) dX2_readFactor_109 (by decide) ?_ ?_
    · skip
      exact hj116
    · skip
      refine sm_iconst (pc := 112) dX2_readFactor_112 zc_i_1 ?_
      refine sm_goto (pc := 113) (tgt := 117) dX2_readFactor_113 (by decide) ?_
      exact hj117
noncomputable def b_X2_readFactor {d : Nat} (self : List zV → zH d → zP d → Bool) (P : zP d) : zK d := (xald 0 (xcV 18 1 0 0 f_X2_next (xist 2 (xald 0 (xgfR 18 6 (xild 1 (xald 0 (xgfI 18 14 (xast1 0 (fun v => v) (xild 2 (xcS 1 0 0 f_X2_isDigit (xif0 t0eq (xild 2 (xlsw [(40, (bX2_readFactor_195 self P)), (68, (bX2_readFactor_118 self P)), (77, (bX2_readFactor_118_2 self P)), (80, (bX2_readFactor_118_3 self P)), (83, (bX2_readFactor_150 self P)), (88, (bX2_readFactor_179 self P)), (91, (bX2_readFactor_96 self P))] (bX2_readFactor_201 self P))) (xald 0 (xild 1 (xcV 18 2 0 0 f_X2_readConstant (xzret P))))))))))))))))
set_option maxRecDepth 100000 in
set_option maxHeartbeats 4000000 in
theorem s_X2_readFactor {d : Nat} [zGh] (n : Nat) (self : List zV → zH d → zP d → Bool) (hself : zMet X_X2_readSum yX2_readSum (4 + 4 * n) self) (P : zP d) : zSim X_X2_readFactor (4 + 4 * n + 2) P 0 (b_X2_readFactor self P) := by
  unfold b_X2_readFactor
  refine sm_aload_n (pc := 0) (n := 0) dX2_readFactor_0 rfl ?_
  refine sm_cV (pc := 1) (ci := 2) (n := 1) (mc := 0) (ms := 0) rfl m_X2_next (cr_X2_74 (X := X_X2_readFactor) (fr := 4 + 4 * n + 2) (frc := 1) (pc := 1) (mc := 0) (ms := 0) rfl (by omega) dX2_readFactor_1) ?_
  refine sm_istore_n (pc := 4) (n := 2) dX2_readFactor_4 rfl ?_
  refine sm_aload_n (pc := 5) (n := 0) dX2_readFactor_5 rfl ?_
  refine gf_X2_36 (pc := 6) rfl dX2_readFactor_6 ?_
  refine sm_iload_n (pc := 9) (n := 1) dX2_readFactor_9 rfl ?_
  refine sm_aload_n (pc := 10) (n := 0) dX2_readFactor_10 rfl ?_
  refine gf_X2_60 (pc := 11) rfl dX2_readFactor_11 ?_
  refine sm_iastore (pc := 14) dX2_readFactor_14 ?_
  refine sm_iload_n (pc := 15) (n := 2) dX2_readFactor_15 rfl ?_
  refine sm_cS (pc := 16) (n := 1) (mc := 0) (ms := 0) m_X2_isDigit (cr_X2_126 (X := X_X2_readFactor) (fr := 4 + 4 * n + 2) (frc := 1) (pc := 16) (mc := 0) (ms := 0) rfl (by omega) dX2_readFactor_16) ?_
  refine sm_if_eq (pc := 19) (tgt := 28) dX2_readFactor_19 (by decide) ?_ ?_
  · skip
    refine sm_iload_n (pc := 28) (n := 2) dX2_readFactor_28 rfl ?_
    refine sm_lsw (pc := 29) (tdf := 201) [(40, 195), (68, 118), (77, 118), (80, 118), (83, 150), (88, 179), (91, 96)] dX2_readFactor_29 (by decide +kernel) (by decide +kernel) rfl (by decide) (sbX2_readFactor_201 n self hself P) (fun i n t k ht hk => ?_)
    match i, ht, hk with
    | 0, ht, hk => cases ht; cases hk; exact sbX2_readFactor_195 n self hself P
    | 1, ht, hk => cases ht; cases hk; exact sbX2_readFactor_118 n self hself P
    | 2, ht, hk => cases ht; cases hk; exact sbX2_readFactor_118_2 n self hself P
    | 3, ht, hk => cases ht; cases hk; exact sbX2_readFactor_118_3 n self hself P
    | 4, ht, hk => cases ht; cases hk; exact sbX2_readFactor_150 n self hself P
    | 5, ht, hk => cases ht; cases hk; exact sbX2_readFactor_179 n self hself P
    | 6, ht, hk => cases ht; cases hk; exact sbX2_readFactor_96 n self hself P
    | i + 7, ht, hk => cases ht
  · skip
    refine sm_aload_n (pc := 22) (n := 0) dX2_readFactor_22 rfl ?_
    refine sm_iload_n (pc := 23) (n := 1) dX2_readFactor_23 rfl ?_
    refine sm_cV (pc := 24) (ci := 2) (n := 2) (mc := 0) (ms := 0) rfl m_X2_readConstant (cr_X2_129 (X := X_X2_readFactor) (fr := 4 + 4 * n + 2) (frc := 3) (pc := 24) (mc := 0) (ms := 0) rfl (by omega) dX2_readFactor_24) ?_
    exact sm_zreturn (pc := 27) dX2_readFactor_27 rfl
noncomputable def f_X2_readFactor {d : Nat} (self : List zV → zH d → zP d → Bool) : List zV → zH d → zP d → Bool := zfn 3 (b_X2_readFactor self)
theorem m_X2_readFactor {d : Nat} (n : Nat) (self : List zV → zH d → zP d → Bool) (hself : zMet X_X2_readSum yX2_readSum (4 + 4 * n) self) : zMet (d := d) X_X2_readFactor yX2_readFactor (4 + 4 * n + 2) (f_X2_readFactor self) := zmet_mk (X := X_X2_readFactor) (by decide) rfl rfl (s_X2_readFactor n self hself)

abbrev X_X2_readTerm : zM := (RX2, cX2_readTerm, 4, (some .boolean), "readTerm")
noncomputable def cX2_readTerm_100 {d : Nat} (self : List zV → zH d → zP d → Bool) (P : zP d) (r51 : zK d) : zK d := (xaal (xald 0 (xgfR 18 2 (xild 1 (xaal (xcV 18 3 0 0 f_X2_multiply (xif0 t0eq (xald 0 (xpI 6 (xild 3 (xild 1 (xpI 1 (xcV 18 5 0 0 f_X2_fail (xzret P))))))) (xinc 2 1 r51))))))))
set_option maxRecDepth 100000 in
set_option maxHeartbeats 4000000 in
theorem scX2_readTerm_100 {d : Nat} [zGh] (n : Nat) (self : List zV → zH d → zP d → Bool) (hself : zMet X_X2_readSum yX2_readSum (4 + 4 * n) self) (P : zP d) (r51 : zK d) (hr51 : zSim X_X2_readTerm (4 + 4 * n + 3) P 51 r51) : zSim X_X2_readTerm (4 + 4 * n + 3) P 100 (cX2_readTerm_100 self P r51) := by
  unfold cX2_readTerm_100
  refine sm_aaload (pc := 100) dX2_readTerm_100 ?_
  refine sm_aload_n (pc := 101) (n := 0) dX2_readTerm_101 rfl ?_
  refine gf_X2_23 (pc := 102) rfl dX2_readTerm_102 ?_
  refine sm_iload_n (pc := 105) (n := 1) dX2_readTerm_105 rfl ?_
  refine sm_aaload (pc := 106) dX2_readTerm_106 ?_
  refine sm_cV (pc := 107) (ci := 2) (n := 3) (mc := 0) (ms := 0) rfl m_X2_multiply (cr_X2_122 (X := X_X2_readTerm) (fr := 4 + 4 * n + 3) (frc := 1) (pc := 107) (mc := 0) (ms := 0) rfl (by omega) dX2_readTerm_107) ?_
  refine sm_if_ne (pc := 110) (tgt := 123) dX2_readTerm_110 (by decide) ?_ ?_
  · skip
    refine sm_iinc (pc := 123) (n := 2) dX2_readTerm_123 zc_i_1 ?_
    refine sm_goto (pc := 126) (tgt := 51) dX2_readTerm_126 (by decide) ?_
    exact hr51
  · skip
    refine sm_aload_n (pc := 113) (n := 0) dX2_readTerm_113 rfl ?_
    refine sm_bipush (pc := 114) dX2_readTerm_114 zc_b_6 ?_
    refine sm_iload_n (pc := 116) (n := 3) dX2_readTerm_116 rfl ?_
    refine sm_iload_n (pc := 117) (n := 1) dX2_readTerm_117 rfl ?_
    refine sm_iconst (pc := 118) dX2_readTerm_118 zc_i_1 ?_
    refine sm_cV (pc := 119) (ci := 2) (n := 5) (mc := 0) (ms := 0) rfl m_X2_fail (cr_X2_115 (X := X_X2_readTerm) (fr := 4 + 4 * n + 3) (frc := 2) (pc := 119) (mc := 0) (ms := 0) rfl (by omega) dX2_readTerm_119) ?_
    exact sm_zreturn (pc := 122) dX2_readTerm_122 rfl
noncomputable def lX2_readTerm_51 {d : Nat} (self : List zV → zH d → zP d → Bool) (P : zP d) (r51 : zK d) : zK d := (xild 2 (xpI 200 (xcmp tge (xpI 1 (xzret P)) (xald 0 (xcV 18 1 0 0 f_X2_next (xpI 42 (xcmp Nat.beq (xald 0 (xgfI 18 14 (xist 3 (xald 0 (xdup (xgfI 18 14 (xpI 1 (xbin zadd (xpfI 18 14 (xald 0 (xild 1 (xcV 18 2 0 0 (f_X2_readFactor self) (xif0 t0eq (xpI 0 (xzret P)) (xald 0 (xald 0 (xgfR 18 3 (xild 1 (cX2_readTerm_100 self P r51)))))))))))))))))) (xpI 1 (xzret P)))))))))
set_option maxRecDepth 100000 in
set_option maxHeartbeats 4000000 in
theorem slX2_readTerm_51 {d : Nat} [zGh] (n : Nat) (self : List zV → zH d → zP d → Bool) (hself : zMet X_X2_readSum yX2_readSum (4 + 4 * n) self) (P : zP d) (r51 : zK d) (hr51 : zSim X_X2_readTerm (4 + 4 * n + 3) P 51 r51) : zSim X_X2_readTerm (4 + 4 * n + 3) P 51 (lX2_readTerm_51 self P r51) := by
  unfold lX2_readTerm_51
  refine sm_iload_n (pc := 51) (n := 2) dX2_readTerm_51 rfl ?_
  refine sm_sipush (pc := 52) dX2_readTerm_52 zc_s_200 ?_
  refine sm_icmp_ge (pc := 55) (tgt := 129) dX2_readTerm_55 (by decide) ?_ ?_
  · skip
    refine sm_iconst (pc := 129) dX2_readTerm_129 zc_i_1 ?_
    exact sm_zreturn (pc := 130) dX2_readTerm_130 rfl
  · skip
    refine sm_aload_n (pc := 58) (n := 0) dX2_readTerm_58 rfl ?_
    refine sm_cV (pc := 59) (ci := 2) (n := 1) (mc := 0) (ms := 0) rfl m_X2_next (cr_X2_74 (X := X_X2_readTerm) (fr := 4 + 4 * n + 3) (frc := 1) (pc := 59) (mc := 0) (ms := 0) rfl (by omega) dX2_readTerm_59) ?_
    refine sm_bipush (pc := 62) dX2_readTerm_62 zc_b_42 ?_
    refine sm_icmp_eq (pc := 64) (tgt := 69) dX2_readTerm_64 (by decide) ?_ ?_
    · skip
      refine sm_aload_n (pc := 69) (n := 0) dX2_readTerm_69 rfl ?_
      refine gf_X2_60 (pc := 70) rfl dX2_readTerm_70 ?_
      refine sm_istore_n (pc := 73) (n := 3) dX2_readTerm_73 rfl ?_
      refine sm_aload_n (pc := 74) (n := 0) dX2_readTerm_74 rfl ?_
      refine sm_dup (pc := 75) dX2_readTerm_75 ?_
      refine gf_X2_60 (pc := 76) rfl dX2_readTerm_76 ?_
      refine sm_iconst (pc := 79) dX2_readTerm_79 zc_i_1 ?_
      refine sm_iadd (pc := 80) dX2_readTerm_80 ?_
      refine pf_X2_60 (pc := 81) rfl dX2_readTerm_81 ?_
      refine sm_aload_n (pc := 84) (n := 0) dX2_readTerm_84 rfl ?_
      refine sm_iload_n (pc := 85) (n := 1) dX2_readTerm_85 rfl ?_
      refine sm_cV (pc := 86) (ci := 2) (n := 2) (mc := 0) (ms := 0) rfl (m_X2_readFactor n self hself) (cr_X2_119 (X := X_X2_readTerm) (fr := 4 + 4 * n + 3) (frc := 4 + 4 * n + 2) (pc := 86) (mc := 0) (ms := 0) rfl (by omega) dX2_readTerm_86) ?_
      refine sm_if_ne (pc := 89) (tgt := 94) dX2_readTerm_89 (by decide) ?_ ?_
      · skip
        refine sm_aload_n (pc := 94) (n := 0) dX2_readTerm_94 rfl ?_
        refine sm_aload_n (pc := 95) (n := 0) dX2_readTerm_95 rfl ?_
        refine gf_X2_26 (pc := 96) rfl dX2_readTerm_96 ?_
        refine sm_iload_n (pc := 99) (n := 1) dX2_readTerm_99 rfl ?_
        exact scX2_readTerm_100 n self hself P r51 hr51
      · skip
        refine sm_iconst (pc := 92) dX2_readTerm_92 zc_i_0 ?_
        exact sm_zreturn (pc := 93) dX2_readTerm_93 rfl
    · skip
      refine sm_iconst (pc := 67) dX2_readTerm_67 zc_i_1 ?_
      exact sm_zreturn (pc := 68) dX2_readTerm_68 rfl
noncomputable def cX2_readTerm_40 {d : Nat} (self : List zV → zH d → zP d → Bool) (P : zP d) : zK d := (xgfR 18 12 (xgfI 23 1 (xcpy 2 72 (xpI 0 (xist 2 (xloop (fun r51 => (lX2_readTerm_51 self P r51)) 100000))))))
set_option maxRecDepth 100000 in
set_option maxHeartbeats 4000000 in
theorem scX2_readTerm_40 {d : Nat} [zGh] (n : Nat) (self : List zV → zH d → zP d → Bool) (hself : zMet X_X2_readSum yX2_readSum (4 + 4 * n) self) (P : zP d) : zSim X_X2_readTerm (4 + 4 * n + 3) P 40 (cX2_readTerm_40 self P) := by
  unfold cX2_readTerm_40
  refine gf_X2_49 (pc := 40) rfl dX2_readTerm_40 ?_
  refine gf_X2_100 (pc := 43) rfl dX2_readTerm_43 ?_
  refine sm_copyJ (pc := 46) wd_753 wd_80 wd_79 wd_7 (by omega) dX2_readTerm_46 ?_
  refine sm_iconst (pc := 49) dX2_readTerm_49 zc_i_0 ?_
  refine sm_istore_n (pc := 50) (n := 2) dX2_readTerm_50 rfl ?_
  exact sm_loop (fun r51 hr51 => slX2_readTerm_51 n self hself P r51 hr51) _
noncomputable def b_X2_readTerm {d : Nat} (self : List zV → zH d → zP d → Bool) (P : zP d) : zK d := (xald 0 (xcV 18 1 0 0 f_X2_next (xpop (xald 0 (xgfR 18 5 (xild 1 (xald 0 (xgfI 18 14 (xast1 0 (fun v => v) (xald 0 (xild 1 (xcV 18 2 0 0 (f_X2_readFactor self) (xif0 t0eq (xpI 0 (xzret P)) (xald 0 (xgfR 18 3 (xild 1 (xaal (xpI 0 (xald 0 (xgfR 18 2 (xild 1 (xaal (xpI 0 (xald 0 (cX2_readTerm_40 self P)))))))))))))))))))))))))
set_option maxRecDepth 100000 in
set_option maxHeartbeats 4000000 in
theorem s_X2_readTerm {d : Nat} [zGh] (n : Nat) (self : List zV → zH d → zP d → Bool) (hself : zMet X_X2_readSum yX2_readSum (4 + 4 * n) self) (P : zP d) : zSim X_X2_readTerm (4 + 4 * n + 3) P 0 (b_X2_readTerm self P) := by
  unfold b_X2_readTerm
  refine sm_aload_n (pc := 0) (n := 0) dX2_readTerm_0 rfl ?_
  refine sm_cV (pc := 1) (ci := 2) (n := 1) (mc := 0) (ms := 0) rfl m_X2_next (cr_X2_74 (X := X_X2_readTerm) (fr := 4 + 4 * n + 3) (frc := 1) (pc := 1) (mc := 0) (ms := 0) rfl (by omega) dX2_readTerm_1) ?_
  refine sm_pop (pc := 4) dX2_readTerm_4 ?_
  refine sm_aload_n (pc := 5) (n := 0) dX2_readTerm_5 rfl ?_
  refine gf_X2_33 (pc := 6) rfl dX2_readTerm_6 ?_
  refine sm_iload_n (pc := 9) (n := 1) dX2_readTerm_9 rfl ?_
  refine sm_aload_n (pc := 10) (n := 0) dX2_readTerm_10 rfl ?_
  refine gf_X2_60 (pc := 11) rfl dX2_readTerm_11 ?_
  refine sm_iastore (pc := 14) dX2_readTerm_14 ?_
  refine sm_aload_n (pc := 15) (n := 0) dX2_readTerm_15 rfl ?_
  refine sm_iload_n (pc := 16) (n := 1) dX2_readTerm_16 rfl ?_
  refine sm_cV (pc := 17) (ci := 2) (n := 2) (mc := 0) (ms := 0) rfl (m_X2_readFactor n self hself) (cr_X2_119 (X := X_X2_readTerm) (fr := 4 + 4 * n + 3) (frc := 4 + 4 * n + 2) (pc := 17) (mc := 0) (ms := 0) rfl (by omega) dX2_readTerm_17) ?_
  refine sm_if_ne (pc := 20) (tgt := 25) dX2_readTerm_20 (by decide) ?_ ?_
  · skip
    refine sm_aload_n (pc := 25) (n := 0) dX2_readTerm_25 rfl ?_
    refine gf_X2_26 (pc := 26) rfl dX2_readTerm_26 ?_
    refine sm_iload_n (pc := 29) (n := 1) dX2_readTerm_29 rfl ?_
    refine sm_aaload (pc := 30) dX2_readTerm_30 ?_
    refine sm_iconst (pc := 31) dX2_readTerm_31 zc_i_0 ?_
    refine sm_aload_n (pc := 32) (n := 0) dX2_readTerm_32 rfl ?_
    refine gf_X2_23 (pc := 33) rfl dX2_readTerm_33 ?_
    refine sm_iload_n (pc := 36) (n := 1) dX2_readTerm_36 rfl ?_
    refine sm_aaload (pc := 37) dX2_readTerm_37 ?_
    refine sm_iconst (pc := 38) dX2_readTerm_38 zc_i_0 ?_
    refine sm_aload_n (pc := 39) (n := 0) dX2_readTerm_39 rfl ?_
    exact scX2_readTerm_40 n self hself P
  · skip
    refine sm_iconst (pc := 23) dX2_readTerm_23 zc_i_0 ?_
    exact sm_zreturn (pc := 24) dX2_readTerm_24 rfl
noncomputable def f_X2_readTerm {d : Nat} (self : List zV → zH d → zP d → Bool) : List zV → zH d → zP d → Bool := zfn 4 (b_X2_readTerm self)
theorem m_X2_readTerm {d : Nat} (n : Nat) (self : List zV → zH d → zP d → Bool) (hself : zMet X_X2_readSum yX2_readSum (4 + 4 * n) self) : zMet (d := d) X_X2_readTerm yX2_readTerm (4 + 4 * n + 3) (f_X2_readTerm self) := zmet_mk (X := X_X2_readTerm) (by decide) rfl rfl (s_X2_readTerm n self hself)

noncomputable def bX2_readSum_121 {d : Nat} (self : List zV → zH d → zP d → Bool) (P : zP d) (r51 : zK d) : zK d := (xald 0 (xgfR 18 1 (xild 1 (xaal (xcV 18 4 0 0 f_X2_add (xif0 t0eq (xald 0 (xpI 6 (xild 4 (xild 1 (xpI 2 (xcV 18 5 0 0 f_X2_fail (xzret P))))))) (xinc 2 1 r51)))))))
set_option maxRecDepth 100000 in
set_option maxHeartbeats 4000000 in
theorem sbX2_readSum_121 {d : Nat} [zGh] (n : Nat) (self : List zV → zH d → zP d → Bool) (hself : zMet X_X2_readSum yX2_readSum (4 + 4 * n) self) (P : zP d) (r51 : zK d) (hr51 : zSim X_X2_readSum (4 + 4 * n + 4) P 51 r51) : zSim X_X2_readSum (4 + 4 * n + 4) P 121 (bX2_readSum_121 self P r51) := by
  unfold bX2_readSum_121
  refine sm_aload_n (pc := 121) (n := 0) dX2_readSum_121 rfl ?_
  refine gf_X2_20 (pc := 122) rfl dX2_readSum_122 ?_
  refine sm_iload_n (pc := 125) (n := 1) dX2_readSum_125 rfl ?_
  refine sm_aaload (pc := 126) dX2_readSum_126 ?_
  refine sm_cV (pc := 127) (ci := 2) (n := 4) (mc := 0) (ms := 0) rfl m_X2_add (cr_X2_111 (X := X_X2_readSum) (fr := 4 + 4 * n + 4) (frc := 1) (pc := 127) (mc := 0) (ms := 0) rfl (by omega) dX2_readSum_127) ?_
  refine sm_if_ne (pc := 130) (tgt := 144) dX2_readSum_130 (by decide) ?_ ?_
  · skip
    refine sm_iinc (pc := 144) (n := 2) dX2_readSum_144 zc_i_1 ?_
    refine sm_goto (pc := 147) (tgt := 51) dX2_readSum_147 (by decide) ?_
    exact hr51
  · skip
    refine sm_aload_n (pc := 133) (n := 0) dX2_readSum_133 rfl ?_
    refine sm_bipush (pc := 134) dX2_readSum_134 zc_b_6 ?_
    refine sm_iload (pc := 136) (n := 4) dX2_readSum_136 ?_
    refine sm_iload_n (pc := 138) (n := 1) dX2_readSum_138 rfl ?_
    refine sm_iconst (pc := 139) dX2_readSum_139 zc_i_2 ?_
    refine sm_cV (pc := 140) (ci := 2) (n := 5) (mc := 0) (ms := 0) rfl m_X2_fail (cr_X2_115 (X := X_X2_readSum) (fr := 4 + 4 * n + 4) (frc := 2) (pc := 140) (mc := 0) (ms := 0) rfl (by omega) dX2_readSum_140) ?_
    exact sm_zreturn (pc := 143) dX2_readSum_143 rfl
noncomputable def bX2_readSum_77 {d : Nat} (self : List zV → zH d → zP d → Bool) (P : zP d) (r51 : zK d) : zK d := (xald 0 (xgfI 18 14 (xist 4 (xald 0 (xdup (xgfI 18 14 (xpI 1 (xbin zadd (xpfI 18 14 (xald 0 (xild 1 (xcV 18 2 0 0 (f_X2_readTerm self) (xif0 t0eq (xpI 0 (xzret P)) (xald 0 (xald 0 (xgfR 18 2 (xild 1 (xaal (xild 3 (xpI 45 (xjoin (bX2_readSum_121 self P r51) (fun j121 => (xcmp Nat.beq (xpI 1 j121) (xpI 0 j121))))))))))))))))))))))))
set_option maxRecDepth 100000 in
set_option maxHeartbeats 4000000 in
theorem sbX2_readSum_77 {d : Nat} [zGh] (n : Nat) (self : List zV → zH d → zP d → Bool) (hself : zMet X_X2_readSum yX2_readSum (4 + 4 * n) self) (P : zP d) (r51 : zK d) (hr51 : zSim X_X2_readSum (4 + 4 * n + 4) P 51 r51) : zSim X_X2_readSum (4 + 4 * n + 4) P 77 (bX2_readSum_77 self P r51) := by
  unfold bX2_readSum_77
  refine sm_aload_n (pc := 77) (n := 0) dX2_readSum_77 rfl ?_
  refine gf_X2_60 (pc := 78) rfl dX2_readSum_78 ?_
  refine sm_istore (pc := 81) (n := 4) dX2_readSum_81 ?_
  refine sm_aload_n (pc := 83) (n := 0) dX2_readSum_83 rfl ?_
  refine sm_dup (pc := 84) dX2_readSum_84 ?_
  refine gf_X2_60 (pc := 85) rfl dX2_readSum_85 ?_
  refine sm_iconst (pc := 88) dX2_readSum_88 zc_i_1 ?_
  refine sm_iadd (pc := 89) dX2_readSum_89 ?_
  refine pf_X2_60 (pc := 90) rfl dX2_readSum_90 ?_
  refine sm_aload_n (pc := 93) (n := 0) dX2_readSum_93 rfl ?_
  refine sm_iload_n (pc := 94) (n := 1) dX2_readSum_94 rfl ?_
  refine sm_cV (pc := 95) (ci := 2) (n := 2) (mc := 0) (ms := 0) rfl (m_X2_readTerm n self hself) (cr_X2_97 (X := X_X2_readSum) (fr := 4 + 4 * n + 4) (frc := 4 + 4 * n + 3) (pc := 95) (mc := 0) (ms := 0) rfl (by omega) dX2_readSum_95) ?_
  refine sm_if_ne (pc := 98) (tgt := 103) dX2_readSum_98 (by decide) ?_ ?_
  · skip
    refine sm_aload_n (pc := 103) (n := 0) dX2_readSum_103 rfl ?_
    refine sm_aload_n (pc := 104) (n := 0) dX2_readSum_104 rfl ?_
    refine gf_X2_23 (pc := 105) rfl dX2_readSum_105 ?_
    refine sm_iload_n (pc := 108) (n := 1) dX2_readSum_108 rfl ?_
    refine sm_aaload (pc := 109) dX2_readSum_109 ?_
    refine sm_iload_n (pc := 110) (n := 3) dX2_readSum_110 rfl ?_
    refine sm_bipush (pc := 111) dX2_readSum_111 zc_b_45 ?_
    refine sm_join (pc := 113) (pc' := 121) (sbX2_readSum_121 n self hself P r51 hr51) (fun j121 hj121 => ?_)
    refine sm_icmp_ne (pc := 113) (tgt := 120) dX2_readSum_113 (by decide) ?_ ?_
    · skip
      refine sm_iconst (pc := 120) dX2_readSum_120 zc_i_0 ?_
      exact hj121
    · skip
      refine sm_iconst (pc := 116) dX2_readSum_116 zc_i_1 ?_
      refine sm_goto (pc := 117) (tgt := 121) dX2_readSum_117 (by decide) ?_
      exact hj121
  · skip
    refine sm_iconst (pc := 101) dX2_readSum_101 zc_i_0 ?_
    exact sm_zreturn (pc := 102) dX2_readSum_102 rfl
noncomputable def lX2_readSum_51 {d : Nat} (self : List zV → zH d → zP d → Bool) (P : zP d) (r51 : zK d) : zK d := (xild 2 (xpI 200 (xcmp tge (xpI 1 (xzret P)) (xald 0 (xcV 18 1 0 0 f_X2_next (xist 3 (xild 3 (xpI 43 (xjoin (bX2_readSum_77 self P r51) (fun j77 => (xcmp Nat.beq j77 (xild 3 (xpI 45 (xcmp Nat.beq j77 (xpI 1 (xzret P))))))))))))))))
set_option maxRecDepth 100000 in
set_option maxHeartbeats 4000000 in
theorem slX2_readSum_51 {d : Nat} [zGh] (n : Nat) (self : List zV → zH d → zP d → Bool) (hself : zMet X_X2_readSum yX2_readSum (4 + 4 * n) self) (P : zP d) (r51 : zK d) (hr51 : zSim X_X2_readSum (4 + 4 * n + 4) P 51 r51) : zSim X_X2_readSum (4 + 4 * n + 4) P 51 (lX2_readSum_51 self P r51) := by
  unfold lX2_readSum_51
  refine sm_iload_n (pc := 51) (n := 2) dX2_readSum_51 rfl ?_
  refine sm_sipush (pc := 52) dX2_readSum_52 zc_s_200 ?_
  refine sm_icmp_ge (pc := 55) (tgt := 150) dX2_readSum_55 (by decide) ?_ ?_
  · skip
    refine sm_iconst (pc := 150) dX2_readSum_150 zc_i_1 ?_
    exact sm_zreturn (pc := 151) dX2_readSum_151 rfl
  · skip
    refine sm_aload_n (pc := 58) (n := 0) dX2_readSum_58 rfl ?_
    refine sm_cV (pc := 59) (ci := 2) (n := 1) (mc := 0) (ms := 0) rfl m_X2_next (cr_X2_74 (X := X_X2_readSum) (fr := 4 + 4 * n + 4) (frc := 1) (pc := 59) (mc := 0) (ms := 0) rfl (by omega) dX2_readSum_59) ?_
    refine sm_istore_n (pc := 62) (n := 3) dX2_readSum_62 rfl ?_
    refine sm_iload_n (pc := 63) (n := 3) dX2_readSum_63 rfl ?_
    refine sm_bipush (pc := 64) dX2_readSum_64 zc_b_43 ?_
    refine sm_join (pc := 66) (pc' := 77) (sbX2_readSum_77 n self hself P r51 hr51) (fun j77 hj77 => ?_)
    refine sm_icmp_eq (pc := 66) (tgt := 77) dX2_readSum_66 (by decide) ?_ ?_
    · skip
      exact hj77
    · skip
      refine sm_iload_n (pc := 69) (n := 3) dX2_readSum_69 rfl ?_
      refine sm_bipush (pc := 70) dX2_readSum_70 zc_b_45 ?_
      refine sm_icmp_eq (pc := 72) (tgt := 77) dX2_readSum_72 (by decide) ?_ ?_
      · skip
        exact hj77
      · skip
        refine sm_iconst (pc := 75) dX2_readSum_75 zc_i_1 ?_
        exact sm_zreturn (pc := 76) dX2_readSum_76 rfl
noncomputable def cX2_readSum_40 {d : Nat} (self : List zV → zH d → zP d → Bool) (P : zP d) : zK d := (xgfR 18 12 (xgfI 23 1 (xcpy 2 72 (xpI 0 (xist 2 (xloop (fun r51 => (lX2_readSum_51 self P r51)) 100000))))))
set_option maxRecDepth 100000 in
set_option maxHeartbeats 4000000 in
theorem scX2_readSum_40 {d : Nat} [zGh] (n : Nat) (self : List zV → zH d → zP d → Bool) (hself : zMet X_X2_readSum yX2_readSum (4 + 4 * n) self) (P : zP d) : zSim X_X2_readSum (4 + 4 * n + 4) P 40 (cX2_readSum_40 self P) := by
  unfold cX2_readSum_40
  refine gf_X2_49 (pc := 40) rfl dX2_readSum_40 ?_
  refine gf_X2_100 (pc := 43) rfl dX2_readSum_43 ?_
  refine sm_copyJ (pc := 46) wd_753 wd_80 wd_79 wd_7 (by omega) dX2_readSum_46 ?_
  refine sm_iconst (pc := 49) dX2_readSum_49 zc_i_0 ?_
  refine sm_istore_n (pc := 50) (n := 2) dX2_readSum_50 rfl ?_
  exact sm_loop (fun r51 hr51 => slX2_readSum_51 n self hself P r51 hr51) _
noncomputable def b_X2_readSum {d : Nat} (self : List zV → zH d → zP d → Bool) (P : zP d) : zK d := (xald 0 (xcV 18 1 0 0 f_X2_next (xpop (xald 0 (xgfR 18 4 (xild 1 (xald 0 (xgfI 18 14 (xast1 0 (fun v => v) (xald 0 (xild 1 (xcV 18 2 0 0 (f_X2_readTerm self) (xif0 t0eq (xpI 0 (xzret P)) (xald 0 (xgfR 18 2 (xild 1 (xaal (xpI 0 (xald 0 (xgfR 18 1 (xild 1 (xaal (xpI 0 (xald 0 (cX2_readSum_40 self P)))))))))))))))))))))))))
set_option maxRecDepth 100000 in
set_option maxHeartbeats 4000000 in
theorem s_X2_readSum {d : Nat} [zGh] (n : Nat) (self : List zV → zH d → zP d → Bool) (hself : zMet X_X2_readSum yX2_readSum (4 + 4 * n) self) (P : zP d) : zSim X_X2_readSum (4 + 4 * n + 4) P 0 (b_X2_readSum self P) := by
  unfold b_X2_readSum
  refine sm_aload_n (pc := 0) (n := 0) dX2_readSum_0 rfl ?_
  refine sm_cV (pc := 1) (ci := 2) (n := 1) (mc := 0) (ms := 0) rfl m_X2_next (cr_X2_74 (X := X_X2_readSum) (fr := 4 + 4 * n + 4) (frc := 1) (pc := 1) (mc := 0) (ms := 0) rfl (by omega) dX2_readSum_1) ?_
  refine sm_pop (pc := 4) dX2_readSum_4 ?_
  refine sm_aload_n (pc := 5) (n := 0) dX2_readSum_5 rfl ?_
  refine gf_X2_29 (pc := 6) rfl dX2_readSum_6 ?_
  refine sm_iload_n (pc := 9) (n := 1) dX2_readSum_9 rfl ?_
  refine sm_aload_n (pc := 10) (n := 0) dX2_readSum_10 rfl ?_
  refine gf_X2_60 (pc := 11) rfl dX2_readSum_11 ?_
  refine sm_iastore (pc := 14) dX2_readSum_14 ?_
  refine sm_aload_n (pc := 15) (n := 0) dX2_readSum_15 rfl ?_
  refine sm_iload_n (pc := 16) (n := 1) dX2_readSum_16 rfl ?_
  refine sm_cV (pc := 17) (ci := 2) (n := 2) (mc := 0) (ms := 0) rfl (m_X2_readTerm n self hself) (cr_X2_97 (X := X_X2_readSum) (fr := 4 + 4 * n + 4) (frc := 4 + 4 * n + 3) (pc := 17) (mc := 0) (ms := 0) rfl (by omega) dX2_readSum_17) ?_
  refine sm_if_ne (pc := 20) (tgt := 25) dX2_readSum_20 (by decide) ?_ ?_
  · skip
    refine sm_aload_n (pc := 25) (n := 0) dX2_readSum_25 rfl ?_
    refine gf_X2_23 (pc := 26) rfl dX2_readSum_26 ?_
    refine sm_iload_n (pc := 29) (n := 1) dX2_readSum_29 rfl ?_
    refine sm_aaload (pc := 30) dX2_readSum_30 ?_
    refine sm_iconst (pc := 31) dX2_readSum_31 zc_i_0 ?_
    refine sm_aload_n (pc := 32) (n := 0) dX2_readSum_32 rfl ?_
    refine gf_X2_20 (pc := 33) rfl dX2_readSum_33 ?_
    refine sm_iload_n (pc := 36) (n := 1) dX2_readSum_36 rfl ?_
    refine sm_aaload (pc := 37) dX2_readSum_37 ?_
    refine sm_iconst (pc := 38) dX2_readSum_38 zc_i_0 ?_
    refine sm_aload_n (pc := 39) (n := 0) dX2_readSum_39 rfl ?_
    exact scX2_readSum_40 n self hself P
  · skip
    refine sm_iconst (pc := 23) dX2_readSum_23 zc_i_0 ?_
    exact sm_zreturn (pc := 24) dX2_readSum_24 rfl

noncomputable def f_X2_readSum {d : Nat} : List zV → zH d → zP d → Bool := zrec 5 b_X2_readSum 6
theorem m_X2_readSum {d : Nat} : zMet (d := d) X_X2_readSum yX2_readSum 28 f_X2_readSum := zmet_rec4 (X := X_X2_readSum) (fr := 4) (by decide) rfl rfl (fun n f hf _ P => s_X2_readSum n f hf P) 6

abbrev X_X2_read : zM := (RX2, cX2_read, 1, (some .boolean), "read")
noncomputable def bX2_read_54 {d : Nat} (P : zP d) : zK d := (xzret P)
set_option maxRecDepth 100000 in
set_option maxHeartbeats 4000000 in
theorem sbX2_read_54 {d : Nat} [zGh] (P : zP d) : zSim X_X2_read 29 P 54 (bX2_read_54 P) := by
  unfold bX2_read_54
  exact sm_zreturn (pc := 54) dX2_read_54 rfl
noncomputable def bX2_read_53 {d : Nat} (P : zP d) (j54 : zK d) : zK d := (xpI 0 j54)
set_option maxRecDepth 100000 in
set_option maxHeartbeats 4000000 in
theorem sbX2_read_53 {d : Nat} [zGh] (P : zP d) (j54 : zK d) (hj54 : zSim X_X2_read 29 P 54 j54) : zSim X_X2_read 29 P 53 (bX2_read_53 P j54) := by
  unfold bX2_read_53
  refine sm_iconst (pc := 53) dX2_read_53 zc_i_0 ?_
  exact hj54
noncomputable def bX2_read_49 {d : Nat} (P : zP d) (j54 : zK d) : zK d := (xpI 1 j54)
set_option maxRecDepth 100000 in
set_option maxHeartbeats 4000000 in
theorem sbX2_read_49 {d : Nat} [zGh] (P : zP d) (j54 : zK d) (hj54 : zSim X_X2_read 29 P 54 j54) : zSim X_X2_read 29 P 49 (bX2_read_49 P j54) := by
  unfold bX2_read_49
  refine sm_iconst (pc := 49) dX2_read_49 zc_i_1 ?_
  refine sm_goto (pc := 50) (tgt := 54) dX2_read_50 (by decide) ?_
  exact hj54
noncomputable def cX2_read_46 {d : Nat} (P : zP d) (j49 : zK d) (j53 : zK d) : zK d := (xif0 t0eq j53 j49)
set_option maxRecDepth 100000 in
set_option maxHeartbeats 4000000 in
theorem scX2_read_46 {d : Nat} [zGh] (P : zP d) (j49 : zK d) (j53 : zK d) (hj49 : zSim X_X2_read 29 P 49 j49) (hj53 : zSim X_X2_read 29 P 53 j53) : zSim X_X2_read 29 P 46 (cX2_read_46 P j49 j53) := by
  unfold cX2_read_46
  refine sm_if_eq (pc := 46) (tgt := 53) dX2_read_46 (by decide) ?_ ?_
  · skip
    exact hj53
  · skip
    exact hj49
noncomputable def b_X2_read {d : Nat} (P : zP d) : zK d := (xald 0 (xgfR 18 0 (xcV 17 1 0 0 f_X1_clear (xald 0 (xpI 0 (xpfI 18 14 (xald 0 (xgfR 18 1 (xpI 0 (xaal (xpL 0 (xcS 2 0 0 f_J7_fill_d0a16 (xald 0 (xpI 0 (xcV 18 2 0 0 f_X2_readSum (xjoin (bX2_read_54 P) (fun j54 => (xjoin (bX2_read_53 P j54) (fun j53 => (xif0 t0eq j53 (xald 0 (xcV 18 1 0 0 f_X2_next (xpI 4294967295 (xjoin (bX2_read_49 P j54) (fun j49 => (xcmp Nat.beq j49 (xald 0 (xald 0 (xgfI 18 14 (xcV 18 2 0 0 f_X2_refuse (cX2_read_46 P j49 j53)))))))))))))))))))))))))))))))
set_option maxRecDepth 100000 in
set_option maxHeartbeats 4000000 in
theorem s_X2_read {d : Nat} [zGh] (P : zP d) : zSim X_X2_read 29 P 0 (b_X2_read P) := by
  unfold b_X2_read
  refine sm_aload_n (pc := 0) (n := 0) dX2_read_0 rfl ?_
  refine gf_X2_12 (pc := 1) rfl dX2_read_1 ?_
  refine sm_cV (pc := 4) (ci := 1) (n := 1) (mc := 0) (ms := 0) rfl m_X1_clear (cr_X2_57 (X := X_X2_read) (fr := 29) (frc := 1) (pc := 4) (mc := 0) (ms := 0) rfl (by decide) dX2_read_4) ?_
  refine sm_aload_n (pc := 7) (n := 0) dX2_read_7 rfl ?_
  refine sm_iconst (pc := 8) dX2_read_8 zc_i_0 ?_
  refine pf_X2_60 (pc := 9) rfl dX2_read_9 ?_
  refine sm_aload_n (pc := 12) (n := 0) dX2_read_12 rfl ?_
  refine gf_X2_20 (pc := 13) rfl dX2_read_13 ?_
  refine sm_iconst (pc := 16) dX2_read_16 zc_i_0 ?_
  refine sm_aaload (pc := 17) dX2_read_17 ?_
  refine sm_lconst (pc := 18) dX2_read_18 zc_l_0 ?_
  refine sm_cS (pc := 19) (n := 2) (mc := 0) (ms := 0) m_J7_fill_d0a16 (cr_X2_64 (X := X_X2_read) (fr := 29) (frc := 1) (pc := 19) (mc := 0) (ms := 0) rfl (by decide) dX2_read_19) ?_
  refine sm_aload_n (pc := 22) (n := 0) dX2_read_22 rfl ?_
  refine sm_iconst (pc := 23) dX2_read_23 zc_i_0 ?_
  refine sm_cV (pc := 24) (ci := 2) (n := 2) (mc := 0) (ms := 0) rfl m_X2_readSum (cr_X2_70 (X := X_X2_read) (fr := 29) (frc := 28) (pc := 24) (mc := 0) (ms := 0) rfl (by decide) dX2_read_24) ?_
  refine sm_join (pc := 27) (pc' := 54) (sbX2_read_54 P) (fun j54 hj54 => ?_)
  refine sm_join (pc := 27) (pc' := 53) (sbX2_read_53 P j54 hj54) (fun j53 hj53 => ?_)
  refine sm_if_eq (pc := 27) (tgt := 53) dX2_read_27 (by decide) ?_ ?_
  · skip
    exact hj53
  · skip
    refine sm_aload_n (pc := 30) (n := 0) dX2_read_30 rfl ?_
    refine sm_cV (pc := 31) (ci := 2) (n := 1) (mc := 0) (ms := 0) rfl m_X2_next (cr_X2_74 (X := X_X2_read) (fr := 29) (frc := 1) (pc := 31) (mc := 0) (ms := 0) rfl (by decide) dX2_read_31) ?_
    refine sm_iconst (pc := 34) dX2_read_34 zc_i_m1 ?_
    refine sm_join (pc := 35) (pc' := 49) (sbX2_read_49 P j54 hj54) (fun j49 hj49 => ?_)
    refine sm_icmp_eq (pc := 35) (tgt := 49) dX2_read_35 (by decide) ?_ ?_
    · skip
      exact hj49
    · skip
      refine sm_aload_n (pc := 38) (n := 0) dX2_read_38 rfl ?_
      refine sm_aload_n (pc := 39) (n := 0) dX2_read_39 rfl ?_
      refine gf_X2_60 (pc := 40) rfl dX2_read_40 ?_
      refine sm_cV (pc := 43) (ci := 2) (n := 2) (mc := 0) (ms := 0) rfl m_X2_refuse (cr_X2_78 (X := X_X2_read) (fr := 29) (frc := 2) (pc := 43) (mc := 0) (ms := 0) rfl (by decide) dX2_read_43) ?_
      exact scX2_read_46 P j49 j53 hj49 hj53
noncomputable def f_X2_read {d : Nat} : List zV → zH d → zP d → Bool := zfn 1 b_X2_read
theorem m_X2_read {d : Nat} : zMet (d := d) X_X2_read yX2_read 29 f_X2_read := zmet_mk (X := X_X2_read) (by decide) rfl rfl s_X2_read
end
section
/-! a switch, its targets one after another -/
def zSims [zGh] {d : Nat} (X : zM) (fr : Nat) (P : zP d) : List Nat → List (zK d) → Prop
  | [], [] => True
  | t :: tg, k :: ks => zSim X fr P t k ∧ zSims X fr P tg ks
  | _, _ => False
theorem zSims_at [G : zGh] {d : Nat} {X : zM} {fr : Nat} {P : zP d} : ∀ {tg : List Nat} {ks : List (zK d)}, zSims X fr P tg ks → ∀ (i : Nat) (k : zK d) (t : Nat), ks[i]? = some k → tg[i]? = some t → zSim X fr P t k
  | [], [], _, i, k, t, h, _ => by simp at h
  | t0 :: tg, k0 :: ks, hs, 0, k, t, h1, h2 => by
    have e1 : k0 = k := by simpa using h1
    have e2 : t0 = t := by simpa using h2
    subst e1
    subst e2
    exact hs.1
  | t0 :: tg, k0 :: ks, hs, i + 1, k, t, h1, h2 => zSims_at hs.2 i k t (by simpa using h1) (by simpa using h2)
theorem sm_tsw3 [G : zGh] {d : Nat} {X : zM} {fr : Nat} {P : zP d} {pc : Nat} {n len tdf : Nat} {dflt hi : Int} {offs : Array Int} {ks : List (zK d)} {kd : zK d} (tg : List Nat) (hhi : hi = (n : Int)) (hn : n < 1000) (dg : decode X.2.1 pc = .ok (.tableswitch dflt 0 hi offs, len)) (hl : ks.length = n + 1) (hoff : (List.range (n + 1)).all (fun i => ztg offs tg pc i) = true) (hdf : (pc : Int) + dflt = (tdf : Int)) (hkd : zSim X fr P tdf kd) (hks : zSims X fr P tg ks) : zSim X fr P pc (xtsw ks kd) := sm_tsw2 tg hhi hn dg hl hoff hdf hkd (zSims_at hks)
end
section
/-! the class, by program -/
abbrev X_X8_isPartition : zM := (RX8, cX8_isPartition, 2, (some .boolean), "isPartition")
noncomputable def bX8_isPartition_20 {d : Nat} (P : zP d) : zK d := (xzret P)
set_option maxRecDepth 100000 in
set_option maxHeartbeats 4000000 in
theorem sbX8_isPartition_20 {d : Nat} [zGh] (P : zP d) : zSim X_X8_isPartition 1 P 20 (bX8_isPartition_20 P) := by
  unfold bX8_isPartition_20
  exact sm_zreturn (pc := 20) dX8_isPartition_20 rfl
noncomputable def bX8_isPartition_19 {d : Nat} (P : zP d) (j20 : zK d) : zK d := (xpI 0 j20)
set_option maxRecDepth 100000 in
set_option maxHeartbeats 4000000 in
theorem sbX8_isPartition_19 {d : Nat} [zGh] (P : zP d) (j20 : zK d) (hj20 : zSim X_X8_isPartition 1 P 20 j20) : zSim X_X8_isPartition 1 P 19 (bX8_isPartition_19 P j20) := by
  unfold bX8_isPartition_19
  refine sm_iconst (pc := 19) dX8_isPartition_19 zc_i_0 ?_
  exact hj20
noncomputable def b_X8_isPartition {d : Nat} (P : zP d) : zK d := (xild 1 (xjoin (bX8_isPartition_20 P) (fun j20 => (xjoin (bX8_isPartition_19 P j20) (fun j19 => (xif0 t0ge (xild 1 (xald 0 (xgfR 24 6 (xgfI 23 1 (xcmp tge j19 (xpI 1 j20)))))) j19))))))
set_option maxRecDepth 100000 in
set_option maxHeartbeats 4000000 in
theorem s_X8_isPartition {d : Nat} [zGh] (P : zP d) : zSim X_X8_isPartition 1 P 0 (b_X8_isPartition P) := by
  unfold b_X8_isPartition
  refine sm_iload_n (pc := 0) (n := 1) dX8_isPartition_0 rfl ?_
  refine sm_join (pc := 1) (pc' := 20) (sbX8_isPartition_20 P) (fun j20 hj20 => ?_)
  refine sm_join (pc := 1) (pc' := 19) (sbX8_isPartition_19 P j20 hj20) (fun j19 hj19 => ?_)
  refine sm_if_lt (pc := 1) (tgt := 19) dX8_isPartition_1 (by decide) ?_ ?_
  · skip
    exact hj19
  · skip
    refine sm_iload_n (pc := 4) (n := 1) dX8_isPartition_4 rfl ?_
    refine sm_aload_n (pc := 5) (n := 0) dX8_isPartition_5 rfl ?_
    refine gf_X8_40 (pc := 6) rfl dX8_isPartition_6 ?_
    refine gf_X8_74 (pc := 9) rfl dX8_isPartition_9 ?_
    refine sm_icmp_ge (pc := 12) (tgt := 19) dX8_isPartition_12 (by decide) ?_ ?_
    · skip
      exact hj19
    · skip
      refine sm_iconst (pc := 15) dX8_isPartition_15 zc_i_1 ?_
      refine sm_goto (pc := 16) (tgt := 20) dX8_isPartition_16 (by decide) ?_
      exact hj20
noncomputable def f_X8_isPartition {d : Nat} : List zV → zH d → zP d → Bool := zfn 2 b_X8_isPartition
theorem m_X8_isPartition {d : Nat} : zMet (d := d) X_X8_isPartition yX8_isPartition 1 f_X8_isPartition := zmet_mk (X := X_X8_isPartition) (by decide) rfl rfl s_X8_isPartition

abbrev X_X8_isRegularPartition : zM := (RX8, cX8_isRegularPartition, 2, (some .boolean), "isRegularPartition")
noncomputable def bX8_isRegularPartition_24 {d : Nat} (P : zP d) : zK d := (xzret P)
set_option maxRecDepth 100000 in
set_option maxHeartbeats 4000000 in
theorem sbX8_isRegularPartition_24 {d : Nat} [zGh] (P : zP d) : zSim X_X8_isRegularPartition 2 P 24 (bX8_isRegularPartition_24 P) := by
  unfold bX8_isRegularPartition_24
  exact sm_zreturn (pc := 24) dX8_isRegularPartition_24 rfl
noncomputable def bX8_isRegularPartition_23 {d : Nat} (P : zP d) (j24 : zK d) : zK d := (xpI 0 j24)
set_option maxRecDepth 100000 in
set_option maxHeartbeats 4000000 in
theorem sbX8_isRegularPartition_23 {d : Nat} [zGh] (P : zP d) (j24 : zK d) (hj24 : zSim X_X8_isRegularPartition 2 P 24 j24) : zSim X_X8_isRegularPartition 2 P 23 (bX8_isRegularPartition_23 P j24) := by
  unfold bX8_isRegularPartition_23
  refine sm_iconst (pc := 23) dX8_isRegularPartition_23 zc_i_0 ?_
  exact hj24
noncomputable def b_X8_isRegularPartition {d : Nat} (P : zP d) : zK d := (xald 0 (xild 1 (xcV 24 2 0 0 f_X8_isPartition (xjoin (bX8_isRegularPartition_24 P) (fun j24 => (xjoin (bX8_isRegularPartition_23 P j24) (fun j23 => (xif0 t0eq j23 (xald 0 (xgfR 24 7 (xild 1 (xcV 21 2 0 0 f_X5_isRegular (xif0 t0eq j23 (xpI 1 j24))))))))))))))
set_option maxRecDepth 100000 in
set_option maxHeartbeats 4000000 in
theorem s_X8_isRegularPartition {d : Nat} [zGh] (P : zP d) : zSim X_X8_isRegularPartition 2 P 0 (b_X8_isRegularPartition P) := by
  unfold b_X8_isRegularPartition
  refine sm_aload_n (pc := 0) (n := 0) dX8_isRegularPartition_0 rfl ?_
  refine sm_iload_n (pc := 1) (n := 1) dX8_isRegularPartition_1 rfl ?_
  refine sm_cV (pc := 2) (ci := 8) (n := 2) (mc := 0) (ms := 0) rfl m_X8_isPartition (cr_X8_126 (X := X_X8_isRegularPartition) (fr := 2) (frc := 1) (pc := 2) (mc := 0) (ms := 0) rfl (by decide) dX8_isRegularPartition_2) ?_
  refine sm_join (pc := 5) (pc' := 24) (sbX8_isRegularPartition_24 P) (fun j24 hj24 => ?_)
  refine sm_join (pc := 5) (pc' := 23) (sbX8_isRegularPartition_23 P j24 hj24) (fun j23 hj23 => ?_)
  refine sm_if_eq (pc := 5) (tgt := 23) dX8_isRegularPartition_5 (by decide) ?_ ?_
  · skip
    exact hj23
  · skip
    refine sm_aload_n (pc := 8) (n := 0) dX8_isRegularPartition_8 rfl ?_
    refine gf_X8_47 (pc := 9) rfl dX8_isRegularPartition_9 ?_
    refine sm_iload_n (pc := 12) (n := 1) dX8_isRegularPartition_12 rfl ?_
    refine sm_cV (pc := 13) (ci := 5) (n := 2) (mc := 0) (ms := 0) rfl m_X5_isRegular (cr_X8_145 (X := X_X8_isRegularPartition) (fr := 2) (frc := 1) (pc := 13) (mc := 0) (ms := 0) rfl (by decide) dX8_isRegularPartition_13) ?_
    refine sm_if_eq (pc := 16) (tgt := 23) dX8_isRegularPartition_16 (by decide) ?_ ?_
    · skip
      exact hj23
    · skip
      refine sm_iconst (pc := 19) dX8_isRegularPartition_19 zc_i_1 ?_
      refine sm_goto (pc := 20) (tgt := 24) dX8_isRegularPartition_20 (by decide) ?_
      exact hj24
noncomputable def f_X8_isRegularPartition {d : Nat} : List zV → zH d → zP d → Bool := zfn 2 b_X8_isRegularPartition
theorem m_X8_isRegularPartition {d : Nat} : zMet (d := d) X_X8_isRegularPartition yX8_isRegularPartition 2 f_X8_isRegularPartition := zmet_mk (X := X_X8_isRegularPartition) (by decide) rfl rfl s_X8_isRegularPartition

abbrev X_X8_timesFactorial : zM := (RX8, cX8_timesFactorial, 8, (some .long), "timesFactorial")
noncomputable def cX8_timesFactorial_76 {d : Nat} (P : zP d) (r33 : zK d) : zK d := r33
set_option maxRecDepth 100000 in
set_option maxHeartbeats 4000000 in
theorem scX8_timesFactorial_76 {d : Nat} [zGh] (P : zP d) (r33 : zK d) (hr33 : zSim X_X8_timesFactorial 1 P 33 r33) : zSim X_X8_timesFactorial 1 P 76 (cX8_timesFactorial_76 P r33) := by
  unfold cX8_timesFactorial_76
  refine sm_goto (pc := 76) (tgt := 33) dX8_timesFactorial_76 (by decide) ?_
  exact hr33
noncomputable def lX8_timesFactorial_33 {d : Nat} (P : zP d) (r33 : zK d) : zK d := (xild 7 (xald 0 (xgfR 24 6 (xgfI 23 1 (xcmp tge (xlld 5 (xlret P)) (xlld 5 (xald 1 (xild 7 (xlal (xald 0 (xgfR 24 6 (xgfR 23 5 (xild 7 (xald1 0 (xi2l (xbinj zmulj (xald 4 (xild 7 (xald1 0 (xi2l (xbinj zmulj (xbinj zaddj (xlst 5 (xinc 7 1 (cX8_timesFactorial_76 P r33)))))))))))))))))))))))))
set_option maxRecDepth 100000 in
set_option maxHeartbeats 4000000 in
theorem slX8_timesFactorial_33 {d : Nat} [zGh] (P : zP d) (r33 : zK d) (hr33 : zSim X_X8_timesFactorial 1 P 33 r33) : zSim X_X8_timesFactorial 1 P 33 (lX8_timesFactorial_33 P r33) := by
  unfold lX8_timesFactorial_33
  refine sm_iload (pc := 33) (n := 7) dX8_timesFactorial_33 ?_
  refine sm_aload_n (pc := 35) (n := 0) dX8_timesFactorial_35 rfl ?_
  refine gf_X8_40 (pc := 36) rfl dX8_timesFactorial_36 ?_
  refine gf_X8_74 (pc := 39) rfl dX8_timesFactorial_39 ?_
  refine sm_icmp_ge (pc := 42) (tgt := 79) dX8_timesFactorial_42 (by decide) ?_ ?_
  · skip
    refine sm_lload (pc := 79) (n := 5) dX8_timesFactorial_79 ?_
    exact sm_lreturn (pc := 81) dX8_timesFactorial_81 rfl
  · skip
    refine sm_lload (pc := 45) (n := 5) dX8_timesFactorial_45 ?_
    refine sm_aload_n (pc := 47) (n := 1) dX8_timesFactorial_47 rfl ?_
    refine sm_iload (pc := 48) (n := 7) dX8_timesFactorial_48 ?_
    refine sm_laload (pc := 50) dX8_timesFactorial_50 ?_
    refine sm_aload_n (pc := 51) (n := 0) dX8_timesFactorial_51 rfl ?_
    refine gf_X8_40 (pc := 52) rfl dX8_timesFactorial_52 ?_
    refine gf_X8_193 (pc := 55) rfl dX8_timesFactorial_55 ?_
    refine sm_iload (pc := 58) (n := 7) dX8_timesFactorial_58 ?_
    refine sm_iaload (pc := 60) dX8_timesFactorial_60 ?_
    refine sm_i2l (pc := 61) dX8_timesFactorial_61 ?_
    refine sm_lmul (pc := 62) dX8_timesFactorial_62 ?_
    refine sm_aload (pc := 63) (n := 4) dX8_timesFactorial_63 ?_
    refine sm_iload (pc := 65) (n := 7) dX8_timesFactorial_65 ?_
    refine sm_iaload (pc := 67) dX8_timesFactorial_67 ?_
    refine sm_i2l (pc := 68) dX8_timesFactorial_68 ?_
    refine sm_lmul (pc := 69) dX8_timesFactorial_69 ?_
    refine sm_ladd (pc := 70) dX8_timesFactorial_70 ?_
    refine sm_lstore (pc := 71) (n := 5) dX8_timesFactorial_71 ?_
    refine sm_iinc (pc := 73) (n := 7) dX8_timesFactorial_73 zc_i_1 ?_
    exact scX8_timesFactorial_76 P r33 hr33
noncomputable def bX8_timesFactorial_25 {d : Nat} (P : zP d) : zK d := (xast 4 (xpL 0 (xlst 5 (xpI 0 (xist 7 (xloop (fun r33 => (lX8_timesFactorial_33 P r33)) 100000))))))
set_option maxRecDepth 100000 in
set_option maxHeartbeats 4000000 in
theorem sbX8_timesFactorial_25 {d : Nat} [zGh] (P : zP d) : zSim X_X8_timesFactorial 1 P 25 (bX8_timesFactorial_25 P) := by
  unfold bX8_timesFactorial_25
  refine sm_astore (pc := 25) (n := 4) dX8_timesFactorial_25 ?_
  refine sm_lconst (pc := 27) dX8_timesFactorial_27 zc_l_0 ?_
  refine sm_lstore (pc := 28) (n := 5) dX8_timesFactorial_28 ?_
  refine sm_iconst (pc := 30) dX8_timesFactorial_30 zc_i_0 ?_
  refine sm_istore (pc := 31) (n := 7) dX8_timesFactorial_31 ?_
  exact sm_loop (fun r33 hr33 => slX8_timesFactorial_33 P r33 hr33) _
noncomputable def b_X8_timesFactorial {d : Nat} (P : zP d) : zK d := (xild 3 (xjoin (bX8_timesFactorial_25 P) (fun j25 => (xif0 t0eq (xald 0 (xgfR 24 6 (xgfR 23 12 (xild 2 (xaal j25))))) (xald 0 (xgfR 24 7 (xgfR 21 9 (xild 2 (xaal j25)))))))))
set_option maxRecDepth 100000 in
set_option maxHeartbeats 4000000 in
theorem s_X8_timesFactorial {d : Nat} [zGh] (P : zP d) : zSim X_X8_timesFactorial 1 P 0 (b_X8_timesFactorial P) := by
  unfold b_X8_timesFactorial
  refine sm_iload_n (pc := 0) (n := 3) dX8_timesFactorial_0 rfl ?_
  refine sm_join (pc := 1) (pc' := 25) (sbX8_timesFactorial_25 P) (fun j25 hj25 => ?_)
  refine sm_if_eq (pc := 1) (tgt := 16) dX8_timesFactorial_1 (by decide) ?_ ?_
  · skip
    refine sm_aload_n (pc := 16) (n := 0) dX8_timesFactorial_16 rfl ?_
    refine gf_X8_40 (pc := 17) rfl dX8_timesFactorial_17 ?_
    refine gf_X8_209 (pc := 20) rfl dX8_timesFactorial_20 ?_
    refine sm_iload_n (pc := 23) (n := 2) dX8_timesFactorial_23 rfl ?_
    refine sm_aaload (pc := 24) dX8_timesFactorial_24 ?_
    exact hj25
  · skip
    refine sm_aload_n (pc := 4) (n := 0) dX8_timesFactorial_4 rfl ?_
    refine gf_X8_47 (pc := 5) rfl dX8_timesFactorial_5 ?_
    refine gf_X8_218 (pc := 8) rfl dX8_timesFactorial_8 ?_
    refine sm_iload_n (pc := 11) (n := 2) dX8_timesFactorial_11 rfl ?_
    refine sm_aaload (pc := 12) dX8_timesFactorial_12 ?_
    refine sm_goto (pc := 13) (tgt := 25) dX8_timesFactorial_13 (by decide) ?_
    exact hj25
noncomputable def f_X8_timesFactorial {d : Nat} : List zV → zH d → zP d → Bool := zfn 8 b_X8_timesFactorial
theorem m_X8_timesFactorial {d : Nat} : zMet (d := d) X_X8_timesFactorial yX8_timesFactorial 1 f_X8_timesFactorial := zmet_mk (X := X_X8_timesFactorial) (by decide) rfl rfl s_X8_timesFactorial

abbrev X_X8_isWholeTimes : zM := (RX8, cX8_isWholeTimes, 3, (some .boolean), "isWholeTimes")
noncomputable def bX8_isWholeTimes_30 {d : Nat} (P : zP d) : zK d := (xzret P)
set_option maxRecDepth 100000 in
set_option maxHeartbeats 4000000 in
theorem sbX8_isWholeTimes_30 {d : Nat} [zGh] (P : zP d) : zSim X_X8_isWholeTimes 1 P 30 (bX8_isWholeTimes_30 P) := by
  unfold bX8_isWholeTimes_30
  exact sm_zreturn (pc := 30) dX8_isWholeTimes_30 rfl
noncomputable def bX8_isWholeTimes_29 {d : Nat} (P : zP d) (j30 : zK d) : zK d := (xpI 0 j30)
set_option maxRecDepth 100000 in
set_option maxHeartbeats 4000000 in
theorem sbX8_isWholeTimes_29 {d : Nat} [zGh] (P : zP d) (j30 : zK d) (hj30 : zSim X_X8_isWholeTimes 1 P 30 j30) : zSim X_X8_isWholeTimes 1 P 29 (bX8_isWholeTimes_29 P j30) := by
  unfold bX8_isWholeTimes_29
  refine sm_iconst (pc := 29) dX8_isWholeTimes_29 zc_i_0 ?_
  exact hj30
noncomputable def b_X8_isWholeTimes {d : Nat} (P : zP d) : zK d := (xald 0 (xgfR 24 6 (xgfI 23 2 (xjoin (bX8_isWholeTimes_30 P) (fun j30 => (xjoin (bX8_isWholeTimes_29 P j30) (fun j29 => (xif0 t0le j29 (xlld 1 (xald 0 (xgfR 24 6 (xgfI 23 2 (xi2l (xbinjN zremj (xpL 0 (xlcmp (xif0 t0eq (xpI 1 j30) j29)))))))))))))))))
set_option maxRecDepth 100000 in
set_option maxHeartbeats 4000000 in
theorem s_X8_isWholeTimes {d : Nat} [zGh] (P : zP d) : zSim X_X8_isWholeTimes 1 P 0 (b_X8_isWholeTimes P) := by
  unfold b_X8_isWholeTimes
  refine sm_aload_n (pc := 0) (n := 0) dX8_isWholeTimes_0 rfl ?_
  refine gf_X8_40 (pc := 1) rfl dX8_isWholeTimes_1 ?_
  refine gf_X8_266 (pc := 4) rfl dX8_isWholeTimes_4 ?_
  refine sm_join (pc := 7) (pc' := 30) (sbX8_isWholeTimes_30 P) (fun j30 hj30 => ?_)
  refine sm_join (pc := 7) (pc' := 29) (sbX8_isWholeTimes_29 P j30 hj30) (fun j29 hj29 => ?_)
  refine sm_if_le (pc := 7) (tgt := 29) dX8_isWholeTimes_7 (by decide) ?_ ?_
  · skip
    exact hj29
  · skip
    refine sm_lload_n (pc := 10) (n := 1) dX8_isWholeTimes_10 rfl ?_
    refine sm_aload_n (pc := 11) (n := 0) dX8_isWholeTimes_11 rfl ?_
    refine gf_X8_40 (pc := 12) rfl dX8_isWholeTimes_12 ?_
    refine gf_X8_266 (pc := 15) rfl dX8_isWholeTimes_15 ?_
    refine sm_i2l (pc := 18) dX8_isWholeTimes_18 ?_
    refine sm_lrem (pc := 19) dX8_isWholeTimes_19 ?_
    refine sm_lconst (pc := 20) dX8_isWholeTimes_20 zc_l_0 ?_
    refine sm_lcmp (pc := 21) dX8_isWholeTimes_21 ?_
    refine sm_if_ne (pc := 22) (tgt := 29) dX8_isWholeTimes_22 (by decide) ?_ ?_
    · skip
      exact hj29
    · skip
      refine sm_iconst (pc := 25) dX8_isWholeTimes_25 zc_i_1 ?_
      refine sm_goto (pc := 26) (tgt := 30) dX8_isWholeTimes_26 (by decide) ?_
      exact hj30
noncomputable def f_X8_isWholeTimes {d : Nat} : List zV → zH d → zP d → Bool := zfn 3 b_X8_isWholeTimes
theorem m_X8_isWholeTimes {d : Nat} : zMet (d := d) X_X8_isWholeTimes yX8_isWholeTimes 1 f_X8_isWholeTimes := zmet_mk (X := X_X8_isWholeTimes) (by decide) rfl rfl s_X8_isWholeTimes

abbrev X_X8_isWhole : zM := (RX8, cX8_isWhole, 7, (some .boolean), "isWhole")
noncomputable def bX8_isWhole_66 {d : Nat} (P : zP d) (r3 : zK d) : zK d := (xinc 4 1 r3)
set_option maxRecDepth 100000 in
set_option maxHeartbeats 4000000 in
theorem sbX8_isWhole_66 {d : Nat} [zGh] (P : zP d) (r3 : zK d) (hr3 : zSim X_X8_isWhole 2 P 3 r3) : zSim X_X8_isWhole 2 P 66 (bX8_isWhole_66 P r3) := by
  unfold bX8_isWhole_66
  refine sm_iinc (pc := 66) (n := 4) dX8_isWhole_66 zc_i_1 ?_
  refine sm_goto (pc := 69) (tgt := 3) dX8_isWhole_69 (by decide) ?_
  exact hr3
noncomputable def bX8_isWhole_64 {d : Nat} (P : zP d) : zK d := (xpI 0 (xzret P))
set_option maxRecDepth 100000 in
set_option maxHeartbeats 4000000 in
theorem sbX8_isWhole_64 {d : Nat} [zGh] (P : zP d) : zSim X_X8_isWhole 2 P 64 (bX8_isWhole_64 P) := by
  unfold bX8_isWhole_64
  refine sm_iconst (pc := 64) dX8_isWhole_64 zc_i_0 ?_
  exact sm_zreturn (pc := 65) dX8_isWhole_65 rfl
noncomputable def bX8_isWhole_34 {d : Nat} (P : zP d) (j66 : zK d) : zK d := (xald 0 (xald 1 (xild 4 (xild 2 (xcV 24 4 0 0 f_X8_timesFactorial (xlst 5 (xald 0 (xlld 5 (xcV 24 2 0 0 f_X8_isWholeTimes (xjoin (bX8_isWhole_64 P) (fun j64 => (xif0 t0eq j64 (xild 3 (xif0 t0eq j66 (xlld 5 (xpL 0 (xlcmp (xif0 t0ge j66 j64))))))))))))))))))
set_option maxRecDepth 100000 in
set_option maxHeartbeats 4000000 in
theorem sbX8_isWhole_34 {d : Nat} [zGh] (P : zP d) (j66 : zK d) (hj66 : zSim X_X8_isWhole 2 P 66 j66) : zSim X_X8_isWhole 2 P 34 (bX8_isWhole_34 P j66) := by
  unfold bX8_isWhole_34
  refine sm_aload_n (pc := 34) (n := 0) dX8_isWhole_34 rfl ?_
  refine sm_aload_n (pc := 35) (n := 1) dX8_isWhole_35 rfl ?_
  refine sm_iload (pc := 36) (n := 4) dX8_isWhole_36 ?_
  refine sm_iload_n (pc := 38) (n := 2) dX8_isWhole_38 rfl ?_
  refine sm_cV (pc := 39) (ci := 8) (n := 4) (mc := 0) (ms := 0) rfl m_X8_timesFactorial (cr_X8_256 (X := X_X8_isWhole) (fr := 2) (frc := 1) (pc := 39) (mc := 0) (ms := 0) rfl (by decide) dX8_isWhole_39) ?_
  refine sm_lstore (pc := 42) (n := 5) dX8_isWhole_42 ?_
  refine sm_aload_n (pc := 44) (n := 0) dX8_isWhole_44 rfl ?_
  refine sm_lload (pc := 45) (n := 5) dX8_isWhole_45 ?_
  refine sm_cV (pc := 47) (ci := 8) (n := 2) (mc := 0) (ms := 0) rfl m_X8_isWholeTimes (cr_X8_283 (X := X_X8_isWhole) (fr := 2) (frc := 1) (pc := 47) (mc := 0) (ms := 0) rfl (by decide) dX8_isWhole_47) ?_
  refine sm_join (pc := 50) (pc' := 64) (sbX8_isWhole_64 P) (fun j64 hj64 => ?_)
  refine sm_if_eq (pc := 50) (tgt := 64) dX8_isWhole_50 (by decide) ?_ ?_
  · skip
    exact hj64
  · skip
    refine sm_iload_n (pc := 53) (n := 3) dX8_isWhole_53 rfl ?_
    refine sm_if_eq (pc := 54) (tgt := 66) dX8_isWhole_54 (by decide) ?_ ?_
    · skip
      exact hj66
    · skip
      refine sm_lload (pc := 57) (n := 5) dX8_isWhole_57 ?_
      refine sm_lconst (pc := 59) dX8_isWhole_59 zc_l_0 ?_
      refine sm_lcmp (pc := 60) dX8_isWhole_60 ?_
      refine sm_if_ge (pc := 61) (tgt := 66) dX8_isWhole_61 (by decide) ?_ ?_
      · skip
        exact hj66
      · skip
        exact hj64
noncomputable def lX8_isWhole_3 {d : Nat} (P : zP d) (r3 : zK d) : zK d := (xild 4 (xald 0 (xgfR 24 6 (xgfI 23 1 (xcmp tge (xpI 1 (xzret P)) (xild 2 (xjoin (bX8_isWhole_66 P r3) (fun j66 => (xjoin (bX8_isWhole_34 P j66) (fun j34 => (xif0 t0eq j34 (xald 0 (xgfR 24 7 (xild 4 (xcV 21 2 0 0 f_X5_isRegular (xif0 t0eq j66 j34))))))))))))))))
set_option maxRecDepth 100000 in
set_option maxHeartbeats 4000000 in
theorem slX8_isWhole_3 {d : Nat} [zGh] (P : zP d) (r3 : zK d) (hr3 : zSim X_X8_isWhole 2 P 3 r3) : zSim X_X8_isWhole 2 P 3 (lX8_isWhole_3 P r3) := by
  unfold lX8_isWhole_3
  refine sm_iload (pc := 3) (n := 4) dX8_isWhole_3 ?_
  refine sm_aload_n (pc := 5) (n := 0) dX8_isWhole_5 rfl ?_
  refine gf_X8_40 (pc := 6) rfl dX8_isWhole_6 ?_
  refine gf_X8_74 (pc := 9) rfl dX8_isWhole_9 ?_
  refine sm_icmp_ge (pc := 12) (tgt := 72) dX8_isWhole_12 (by decide) ?_ ?_
  · skip
    refine sm_iconst (pc := 72) dX8_isWhole_72 zc_i_1 ?_
    exact sm_zreturn (pc := 73) dX8_isWhole_73 rfl
  · skip
    refine sm_iload_n (pc := 15) (n := 2) dX8_isWhole_15 rfl ?_
    refine sm_join (pc := 16) (pc' := 66) (sbX8_isWhole_66 P r3 hr3) (fun j66 hj66 => ?_)
    refine sm_join (pc := 16) (pc' := 34) (sbX8_isWhole_34 P j66 hj66) (fun j34 hj34 => ?_)
    refine sm_if_eq (pc := 16) (tgt := 34) dX8_isWhole_16 (by decide) ?_ ?_
    · skip
      exact hj34
    · skip
      refine sm_aload_n (pc := 19) (n := 0) dX8_isWhole_19 rfl ?_
      refine gf_X8_47 (pc := 20) rfl dX8_isWhole_20 ?_
      refine sm_iload (pc := 23) (n := 4) dX8_isWhole_23 ?_
      refine sm_cV (pc := 25) (ci := 5) (n := 2) (mc := 0) (ms := 0) rfl m_X5_isRegular (cr_X8_145 (X := X_X8_isWhole) (fr := 2) (frc := 1) (pc := 25) (mc := 0) (ms := 0) rfl (by decide) dX8_isWhole_25) ?_
      refine sm_if_ne (pc := 28) (tgt := 34) dX8_isWhole_28 (by decide) ?_ ?_
      · skip
        exact hj34
      · skip
        refine sm_goto (pc := 31) (tgt := 66) dX8_isWhole_31 (by decide) ?_
        exact hj66
noncomputable def b_X8_isWhole {d : Nat} (P : zP d) : zK d := (xpI 0 (xist 4 (xloop (fun r3 => (lX8_isWhole_3 P r3)) 100000)))
set_option maxRecDepth 100000 in
set_option maxHeartbeats 4000000 in
theorem s_X8_isWhole {d : Nat} [zGh] (P : zP d) : zSim X_X8_isWhole 2 P 0 (b_X8_isWhole P) := by
  unfold b_X8_isWhole
  refine sm_iconst (pc := 0) dX8_isWhole_0 zc_i_0 ?_
  refine sm_istore (pc := 1) (n := 4) dX8_isWhole_1 ?_
  exact sm_loop (fun r3 hr3 => slX8_isWhole_3 P r3 hr3) _
noncomputable def f_X8_isWhole {d : Nat} : List zV → zH d → zP d → Bool := zfn 7 b_X8_isWhole
theorem m_X8_isWhole {d : Nat} : zMet (d := d) X_X8_isWhole yX8_isWhole 2 f_X8_isWhole := zmet_mk (X := X_X8_isWhole) (by decide) rfl rfl s_X8_isWhole

abbrev X_X8_isZeroOffRegular : zM := (RX8, cX8_isZeroOffRegular, 3, (some .boolean), "isZeroOffRegular")
noncomputable def bX8_isZeroOffRegular_35 {d : Nat} (P : zP d) (r2 : zK d) : zK d := (xinc 2 1 r2)
set_option maxRecDepth 100000 in
set_option maxHeartbeats 4000000 in
theorem sbX8_isZeroOffRegular_35 {d : Nat} [zGh] (P : zP d) (r2 : zK d) (hr2 : zSim X_X8_isZeroOffRegular 1 P 2 r2) : zSim X_X8_isZeroOffRegular 1 P 35 (bX8_isZeroOffRegular_35 P r2) := by
  unfold bX8_isZeroOffRegular_35
  refine sm_iinc (pc := 35) (n := 2) dX8_isZeroOffRegular_35 zc_i_1 ?_
  refine sm_goto (pc := 38) (tgt := 2) dX8_isZeroOffRegular_38 (by decide) ?_
  exact hr2
noncomputable def lX8_isZeroOffRegular_2 {d : Nat} (P : zP d) (r2 : zK d) : zK d := (xild 2 (xald 0 (xgfR 24 6 (xgfI 23 1 (xcmp tge (xpI 1 (xzret P)) (xald 0 (xgfR 24 7 (xgfR 21 4 (xild 2 (xald1 1 (xjoin (bX8_isZeroOffRegular_35 P r2) (fun j35 => (xif0 t0eq (xald 1 (xild 2 (xlal (xpL 0 (xlcmp (xif0 t0eq j35 (xpI 0 (xzret P)))))))) j35)))))))))))))
set_option maxRecDepth 100000 in
set_option maxHeartbeats 4000000 in
theorem slX8_isZeroOffRegular_2 {d : Nat} [zGh] (P : zP d) (r2 : zK d) (hr2 : zSim X_X8_isZeroOffRegular 1 P 2 r2) : zSim X_X8_isZeroOffRegular 1 P 2 (lX8_isZeroOffRegular_2 P r2) := by
  unfold lX8_isZeroOffRegular_2
  refine sm_iload_n (pc := 2) (n := 2) dX8_isZeroOffRegular_2 rfl ?_
  refine sm_aload_n (pc := 3) (n := 0) dX8_isZeroOffRegular_3 rfl ?_
  refine gf_X8_40 (pc := 4) rfl dX8_isZeroOffRegular_4 ?_
  refine gf_X8_74 (pc := 7) rfl dX8_isZeroOffRegular_7 ?_
  refine sm_icmp_ge (pc := 10) (tgt := 41) dX8_isZeroOffRegular_10 (by decide) ?_ ?_
  · skip
    refine sm_iconst (pc := 41) dX8_isZeroOffRegular_41 zc_i_1 ?_
    exact sm_zreturn (pc := 42) dX8_isZeroOffRegular_42 rfl
  · skip
    refine sm_aload_n (pc := 13) (n := 0) dX8_isZeroOffRegular_13 rfl ?_
    refine gf_X8_47 (pc := 14) rfl dX8_isZeroOffRegular_14 ?_
    refine gf_X8_199 (pc := 17) rfl dX8_isZeroOffRegular_17 ?_
    refine sm_iload_n (pc := 20) (n := 2) dX8_isZeroOffRegular_20 rfl ?_
    refine sm_baload (pc := 21) dX8_isZeroOffRegular_21 ?_
    refine sm_join (pc := 22) (pc' := 35) (sbX8_isZeroOffRegular_35 P r2 hr2) (fun j35 hj35 => ?_)
    refine sm_if_ne (pc := 22) (tgt := 35) dX8_isZeroOffRegular_22 (by decide) ?_ ?_
    · skip
      exact hj35
    · skip
      refine sm_aload_n (pc := 25) (n := 1) dX8_isZeroOffRegular_25 rfl ?_
      refine sm_iload_n (pc := 26) (n := 2) dX8_isZeroOffRegular_26 rfl ?_
      refine sm_laload (pc := 27) dX8_isZeroOffRegular_27 ?_
      refine sm_lconst (pc := 28) dX8_isZeroOffRegular_28 zc_l_0 ?_
      refine sm_lcmp (pc := 29) dX8_isZeroOffRegular_29 ?_
      refine sm_if_eq (pc := 30) (tgt := 35) dX8_isZeroOffRegular_30 (by decide) ?_ ?_
      · skip
        exact hj35
      · skip
        refine sm_iconst (pc := 33) dX8_isZeroOffRegular_33 zc_i_0 ?_
        exact sm_zreturn (pc := 34) dX8_isZeroOffRegular_34 rfl
noncomputable def b_X8_isZeroOffRegular {d : Nat} (P : zP d) : zK d := (xpI 0 (xist 2 (xloop (fun r2 => (lX8_isZeroOffRegular_2 P r2)) 100000)))
set_option maxRecDepth 100000 in
set_option maxHeartbeats 4000000 in
theorem s_X8_isZeroOffRegular {d : Nat} [zGh] (P : zP d) : zSim X_X8_isZeroOffRegular 1 P 0 (b_X8_isZeroOffRegular P) := by
  unfold b_X8_isZeroOffRegular
  refine sm_iconst (pc := 0) dX8_isZeroOffRegular_0 zc_i_0 ?_
  refine sm_istore_n (pc := 1) (n := 2) dX8_isZeroOffRegular_1 rfl ?_
  exact sm_loop (fun r2 hr2 => slX8_isZeroOffRegular_2 P r2 hr2) _
noncomputable def f_X8_isZeroOffRegular {d : Nat} : List zV → zH d → zP d → Bool := zfn 3 b_X8_isZeroOffRegular
theorem m_X8_isZeroOffRegular {d : Nat} : zMet (d := d) X_X8_isZeroOffRegular yX8_isZeroOffRegular 1 f_X8_isZeroOffRegular := zmet_mk (X := X_X8_isZeroOffRegular) (by decide) rfl rfl s_X8_isZeroOffRegular

abbrev X_X8_slotsInUse : zM := (RX8, cX8_slotsInUse, 4, (some .int), "slotsInUse")
noncomputable def bX8_slotsInUse_42 {d : Nat} (P : zP d) (r12 : zK d) : zK d := (xinc 3 1 r12)
set_option maxRecDepth 100000 in
set_option maxHeartbeats 4000000 in
theorem sbX8_slotsInUse_42 {d : Nat} [zGh] (P : zP d) (r12 : zK d) (hr12 : zSim X_X8_slotsInUse 1 P 12 r12) : zSim X_X8_slotsInUse 1 P 42 (bX8_slotsInUse_42 P r12) := by
  unfold bX8_slotsInUse_42
  refine sm_iinc (pc := 42) (n := 3) dX8_slotsInUse_42 zc_i_1 ?_
  refine sm_goto (pc := 45) (tgt := 12) dX8_slotsInUse_45 (by decide) ?_
  exact hr12
noncomputable def lX8_slotsInUse_12 {d : Nat} (P : zP d) (r12 : zK d) (r4 : zK d) : zK d := (xild 3 (xald 0 (xgfR 24 6 (xgfI 23 1 (xcmp tge (xinc 2 1 r4) (xald 0 (xgfR 24 2 (xild 2 (xaal (xild 3 (xlal (xpL 0 (xlcmp (xjoin (bX8_slotsInUse_42 P r12) (fun j42 => (xif0 t0eq j42 (xild 1 (xpI 1 (xild 2 (xbin zshl (xbin zor (xist 1 j42))))))))))))))))))))))
set_option maxRecDepth 100000 in
set_option maxHeartbeats 4000000 in
theorem slX8_slotsInUse_12 {d : Nat} [zGh] (P : zP d) (r12 : zK d) (r4 : zK d) (hr12 : zSim X_X8_slotsInUse 1 P 12 r12) (hr4 : zSim X_X8_slotsInUse 1 P 4 r4) : zSim X_X8_slotsInUse 1 P 12 (lX8_slotsInUse_12 P r12 r4) := by
  unfold lX8_slotsInUse_12
  refine sm_iload_n (pc := 12) (n := 3) dX8_slotsInUse_12 rfl ?_
  refine sm_aload_n (pc := 13) (n := 0) dX8_slotsInUse_13 rfl ?_
  refine gf_X8_40 (pc := 14) rfl dX8_slotsInUse_14 ?_
  refine gf_X8_74 (pc := 17) rfl dX8_slotsInUse_17 ?_
  refine sm_icmp_ge (pc := 20) (tgt := 48) dX8_slotsInUse_20 (by decide) ?_ ?_
  · skip
    refine sm_iinc (pc := 48) (n := 2) dX8_slotsInUse_48 zc_i_1 ?_
    refine sm_goto (pc := 51) (tgt := 4) dX8_slotsInUse_51 (by decide) ?_
    exact hr4
  · skip
    refine sm_aload_n (pc := 23) (n := 0) dX8_slotsInUse_23 rfl ?_
    refine gf_X8_23 (pc := 24) rfl dX8_slotsInUse_24 ?_
    refine sm_iload_n (pc := 27) (n := 2) dX8_slotsInUse_27 rfl ?_
    refine sm_aaload (pc := 28) dX8_slotsInUse_28 ?_
    refine sm_iload_n (pc := 29) (n := 3) dX8_slotsInUse_29 rfl ?_
    refine sm_laload (pc := 30) dX8_slotsInUse_30 ?_
    refine sm_lconst (pc := 31) dX8_slotsInUse_31 zc_l_0 ?_
    refine sm_lcmp (pc := 32) dX8_slotsInUse_32 ?_
    refine sm_join (pc := 33) (pc' := 42) (sbX8_slotsInUse_42 P r12 hr12) (fun j42 hj42 => ?_)
    refine sm_if_eq (pc := 33) (tgt := 42) dX8_slotsInUse_33 (by decide) ?_ ?_
    · skip
      exact hj42
    · skip
      refine sm_iload_n (pc := 36) (n := 1) dX8_slotsInUse_36 rfl ?_
      refine sm_iconst (pc := 37) dX8_slotsInUse_37 zc_i_1 ?_
      refine sm_iload_n (pc := 38) (n := 2) dX8_slotsInUse_38 rfl ?_
      refine sm_ishl (pc := 39) dX8_slotsInUse_39 ?_
      refine sm_ior (pc := 40) dX8_slotsInUse_40 ?_
      refine sm_istore_n (pc := 41) (n := 1) dX8_slotsInUse_41 rfl ?_
      exact hj42
noncomputable def lX8_slotsInUse_4 {d : Nat} (P : zP d) (r4 : zK d) : zK d := (xild 2 (xpI 6 (xcmp tge (xild 1 (xiret P)) (xpI 0 (xist 3 (xloop (fun r12 => (lX8_slotsInUse_12 P r12 r4)) 100000))))))
set_option maxRecDepth 100000 in
set_option maxHeartbeats 4000000 in
theorem slX8_slotsInUse_4 {d : Nat} [zGh] (P : zP d) (r4 : zK d) (hr4 : zSim X_X8_slotsInUse 1 P 4 r4) : zSim X_X8_slotsInUse 1 P 4 (lX8_slotsInUse_4 P r4) := by
  unfold lX8_slotsInUse_4
  refine sm_iload_n (pc := 4) (n := 2) dX8_slotsInUse_4 rfl ?_
  refine sm_bipush (pc := 5) dX8_slotsInUse_5 zc_b_6 ?_
  refine sm_icmp_ge (pc := 7) (tgt := 54) dX8_slotsInUse_7 (by decide) ?_ ?_
  · skip
    refine sm_iload_n (pc := 54) (n := 1) dX8_slotsInUse_54 rfl ?_
    exact sm_ireturn (pc := 55) dX8_slotsInUse_55 rfl
  · skip
    refine sm_iconst (pc := 10) dX8_slotsInUse_10 zc_i_0 ?_
    refine sm_istore_n (pc := 11) (n := 3) dX8_slotsInUse_11 rfl ?_
    exact sm_loop (fun r12 hr12 => slX8_slotsInUse_12 P r12 r4 hr12 hr4) _
noncomputable def b_X8_slotsInUse {d : Nat} (P : zP d) : zK d := (xpI 0 (xist 1 (xpI 0 (xist 2 (xloop (fun r4 => (lX8_slotsInUse_4 P r4)) 100000)))))
set_option maxRecDepth 100000 in
set_option maxHeartbeats 4000000 in
theorem s_X8_slotsInUse {d : Nat} [zGh] (P : zP d) : zSim X_X8_slotsInUse 1 P 0 (b_X8_slotsInUse P) := by
  unfold b_X8_slotsInUse
  refine sm_iconst (pc := 0) dX8_slotsInUse_0 zc_i_0 ?_
  refine sm_istore_n (pc := 1) (n := 1) dX8_slotsInUse_1 rfl ?_
  refine sm_iconst (pc := 2) dX8_slotsInUse_2 zc_i_0 ?_
  refine sm_istore_n (pc := 3) (n := 2) dX8_slotsInUse_3 rfl ?_
  exact sm_loop (fun r4 hr4 => slX8_slotsInUse_4 P r4 hr4) _
noncomputable def f_X8_slotsInUse {d : Nat} : List zV → zH d → zP d → Bool := zfn 4 b_X8_slotsInUse
theorem m_X8_slotsInUse {d : Nat} : zMet (d := d) X_X8_slotsInUse yX8_slotsInUse 1 f_X8_slotsInUse := zmet_mk (X := X_X8_slotsInUse) (by decide) rfl rfl s_X8_slotsInUse

abbrev X_X8_addTimes : zM := (RX8, cX8_addTimes, 5, none, "addTimes")
noncomputable def lX8_addTimes_3 {d : Nat} (P : zP d) (r3 : zK d) : zK d := (xild 4 (xald 0 (xgfR 24 6 (xgfI 23 1 (xcmp tge (xvret P) (xald 0 (xgfR 24 3 (xild 4 (xdup2 (xlal (xlld 1 (xald 3 (xild 4 (xald1 0 (xi2l (xbinj zmulj (xbinj zaddj (xlas (xinc 4 1 r3)))))))))))))))))))
set_option maxRecDepth 100000 in
set_option maxHeartbeats 4000000 in
theorem slX8_addTimes_3 {d : Nat} [zGh] (P : zP d) (r3 : zK d) (hr3 : zSim X_X8_addTimes 1 P 3 r3) : zSim X_X8_addTimes 1 P 3 (lX8_addTimes_3 P r3) := by
  unfold lX8_addTimes_3
  refine sm_iload (pc := 3) (n := 4) dX8_addTimes_3 ?_
  refine sm_aload_n (pc := 5) (n := 0) dX8_addTimes_5 rfl ?_
  refine gf_X8_40 (pc := 6) rfl dX8_addTimes_6 ?_
  refine gf_X8_74 (pc := 9) rfl dX8_addTimes_9 ?_
  refine sm_icmp_ge (pc := 12) (tgt := 38) dX8_addTimes_12 (by decide) ?_ ?_
  · skip
    exact sm_vreturn (pc := 38) dX8_addTimes_38 rfl
  · skip
    refine sm_aload_n (pc := 15) (n := 0) dX8_addTimes_15 rfl ?_
    refine gf_X8_26 (pc := 16) rfl dX8_addTimes_16 ?_
    refine sm_iload (pc := 19) (n := 4) dX8_addTimes_19 ?_
    refine sm_dup2 (pc := 21) dX8_addTimes_21 ?_
    refine sm_laload (pc := 22) dX8_addTimes_22 ?_
    refine sm_lload_n (pc := 23) (n := 1) dX8_addTimes_23 rfl ?_
    refine sm_aload_n (pc := 24) (n := 3) dX8_addTimes_24 rfl ?_
    refine sm_iload (pc := 25) (n := 4) dX8_addTimes_25 ?_
    refine sm_iaload (pc := 27) dX8_addTimes_27 ?_
    refine sm_i2l (pc := 28) dX8_addTimes_28 ?_
    refine sm_lmul (pc := 29) dX8_addTimes_29 ?_
    refine sm_ladd (pc := 30) dX8_addTimes_30 ?_
    refine sm_lastore (pc := 31) dX8_addTimes_31 ?_
    refine sm_iinc (pc := 32) (n := 4) dX8_addTimes_32 zc_i_1 ?_
    refine sm_goto (pc := 35) (tgt := 3) dX8_addTimes_35 (by decide) ?_
    exact hr3
noncomputable def b_X8_addTimes {d : Nat} (P : zP d) : zK d := (xpI 0 (xist 4 (xloop (fun r3 => (lX8_addTimes_3 P r3)) 100000)))
set_option maxRecDepth 100000 in
set_option maxHeartbeats 4000000 in
theorem s_X8_addTimes {d : Nat} [zGh] (P : zP d) : zSim X_X8_addTimes 1 P 0 (b_X8_addTimes P) := by
  unfold b_X8_addTimes
  refine sm_iconst (pc := 0) dX8_addTimes_0 zc_i_0 ?_
  refine sm_istore (pc := 1) (n := 4) dX8_addTimes_1 ?_
  exact sm_loop (fun r3 hr3 => slX8_addTimes_3 P r3 hr3) _
noncomputable def f_X8_addTimes {d : Nat} : List zV → zH d → zP d → Bool := zfn 5 b_X8_addTimes
theorem m_X8_addTimes {d : Nat} : zMet (d := d) X_X8_addTimes yX8_addTimes 1 f_X8_addTimes := zmet_mk (X := X_X8_addTimes) (by decide) rfl rfl s_X8_addTimes

abbrev X_X8_init : zM := (RX8, cX8_init, 1, none, "<init>")
noncomputable def cX8_init_97 {d : Nat} (P : zP d) : zK d := (xcS 2 0 0 f_X8_groupIndex (xald 0 (xgfR 24 7 (xaas 7 21 (xald 0 (xnew 18 15 (xdup (xald 0 (xgfR 24 4 (xald 0 (xgfR 24 2 (xald 0 (xgfR 24 6 (xald 0 (xgfR 24 7 (xcV 18 5 26 240 f_X2_init (xpfR 24 5 (xvret P))))))))))))))))))
set_option maxRecDepth 100000 in
set_option maxHeartbeats 4000000 in
theorem scX8_init_97 {d : Nat} [zGh] (P : zP d) : zSim X_X8_init 13 P 97 (cX8_init_97 P) := by
  unfold cX8_init_97
  refine sm_cS (pc := 97) (n := 2) (mc := 0) (ms := 0) m_X8_groupIndex (cr_X8_51 (X := X_X8_init) (fr := 13) (frc := 1) (pc := 97) (mc := 0) (ms := 0) rfl (by decide) dX8_init_97) ?_
  refine sm_aload_n (pc := 100) (n := 0) dX8_init_100 rfl ?_
  refine gf_X8_47 (pc := 101) rfl dX8_init_101 ?_
  refine sm_aastore (pc := 104) (kc := 7) (ci := 5) (by decide) (by decide) rfl rfl (fun _ => rfl) dX8_init_104 ?_
  refine sm_aload_n (pc := 105) (n := 0) dX8_init_105 rfl ?_
  refine sm_new (pc := 106) (ci := 2) (C := RX2) (T := TX2) (N := 15) (ty0 := tyX2) rfl rfl (by decide) (by decide) inz2 tyX2_ok rfl wd_540 wd_541 wd_12 dX8_init_106 ?_
  refine sm_dup (pc := 109) dX8_init_109 ?_
  refine sm_aload_n (pc := 110) (n := 0) dX8_init_110 rfl ?_
  refine gf_X8_33 (pc := 111) rfl dX8_init_111 ?_
  refine sm_aload_n (pc := 114) (n := 0) dX8_init_114 rfl ?_
  refine gf_X8_23 (pc := 115) rfl dX8_init_115 ?_
  refine sm_aload_n (pc := 118) (n := 0) dX8_init_118 rfl ?_
  refine gf_X8_40 (pc := 119) rfl dX8_init_119 ?_
  refine sm_aload_n (pc := 122) (n := 0) dX8_init_122 rfl ?_
  refine gf_X8_47 (pc := 123) rfl dX8_init_123 ?_
  refine sm_cV (pc := 126) (ci := 2) (n := 5) (mc := 26) (ms := 240) rfl m_X2_init (cr_X8_57 (X := X_X8_init) (fr := 13) (frc := 2) (pc := 126) (mc := 26) (ms := 240) rfl (by decide) dX8_init_126) ?_
  refine pf_X8_60 (pc := 129) rfl rfl dX8_init_129 ?_
  exact sm_vreturn (pc := 132) dX8_init_132 rfl
noncomputable def cX8_init_53 {d : Nat} (P : zP d) : zK d := (xald 0 (xnew 23 14 (xdup (xpI 3 (xcV 23 2 800 77000 f_X7_init (xpfR 24 6 (xald 0 (xnew 21 12 (xdup (xald 0 (xgfR 24 6 (xpI 2 (xcV 21 3 170 2000 f_X5_init (xpfR 24 7 (xald 0 (xgfR 24 0 (xpI 3 (xald 0 (xgfR 24 6 (xaas 6 23 (xald 0 (xgfR 24 1 (xpI 3 (xpI 2 (cX8_init_97 P)))))))))))))))))))))))))
set_option maxRecDepth 100000 in
set_option maxHeartbeats 4000000 in
theorem scX8_init_53 {d : Nat} [zGh] (P : zP d) : zSim X_X8_init 13 P 53 (cX8_init_53 P) := by
  unfold cX8_init_53
  refine sm_aload_n (pc := 53) (n := 0) dX8_init_53 rfl ?_
  refine sm_new (pc := 54) (ci := 7) (C := RX7) (T := TX7) (N := 14) (ty0 := tyX7) rfl rfl (by decide) (by decide) inz7 tyX7_ok rfl wd_23 wd_47 wd_3 dX8_init_54 ?_
  refine sm_dup (pc := 57) dX8_init_57 ?_
  refine sm_iconst (pc := 58) dX8_init_58 zc_i_3 ?_
  refine sm_cV (pc := 59) (ci := 7) (n := 2) (mc := 800) (ms := 77000) rfl m_X7_init (cr_X8_37 (X := X_X8_init) (fr := 13) (frc := 12) (pc := 59) (mc := 800) (ms := 77000) rfl (by decide) dX8_init_59) ?_
  refine pf_X8_40 (pc := 62) rfl dX8_init_62 ?_
  refine sm_aload_n (pc := 65) (n := 0) dX8_init_65 rfl ?_
  refine sm_new (pc := 66) (ci := 5) (C := RX5) (T := TX5) (N := 12) (ty0 := tyX5) rfl rfl (by decide) (by decide) inz5 tyX5_ok rfl wd_25 wd_327 wd_9 dX8_init_66 ?_
  refine sm_dup (pc := 69) dX8_init_69 ?_
  refine sm_aload_n (pc := 70) (n := 0) dX8_init_70 rfl ?_
  refine gf_X8_40 (pc := 71) rfl dX8_init_71 ?_
  refine sm_iconst (pc := 74) dX8_init_74 zc_i_2 ?_
  refine sm_cV (pc := 75) (ci := 5) (n := 3) (mc := 170) (ms := 2000) rfl m_X5_init (cr_X8_44 (X := X_X8_init) (fr := 13) (frc := 6) (pc := 75) (mc := 170) (ms := 2000) rfl (by decide) dX8_init_75) ?_
  refine pf_X8_47 (pc := 78) rfl dX8_init_78 ?_
  refine sm_aload_n (pc := 81) (n := 0) dX8_init_81 rfl ?_
  refine gf_X8_11 (pc := 82) rfl dX8_init_82 ?_
  refine sm_iconst (pc := 85) dX8_init_85 zc_i_3 ?_
  refine sm_aload_n (pc := 86) (n := 0) dX8_init_86 rfl ?_
  refine gf_X8_40 (pc := 87) rfl dX8_init_87 ?_
  refine sm_aastore (pc := 90) (kc := 6) (ci := 7) (by decide) (by decide) rfl rfl (fun _ => rfl) dX8_init_90 ?_
  refine sm_aload_n (pc := 91) (n := 0) dX8_init_91 rfl ?_
  refine gf_X8_17 (pc := 92) rfl dX8_init_92 ?_
  refine sm_iconst (pc := 95) dX8_init_95 zc_i_3 ?_
  refine sm_iconst (pc := 96) dX8_init_96 zc_i_2 ?_
  exact scX8_init_97 P
noncomputable def b_X8_init {d : Nat} (P : zP d) : zK d := (xald 0 (xobj (xald 0 (xpI 7 (xnwa 6 (xpfR 24 0 (xald 0 (xpI 56 (xnwa 7 (xpfR 24 1 (xald 0 (xpI 6 (xpI 11 (xmnaD 4 2 (xpfR 24 2 (xald 0 (xpI 11 (xnwa 2 (xpfR 24 3 (xald 0 (xnew 22 2 (xdup (xcV 22 1 1 200 f_X6_init (xpfR 24 4 (cX8_init_53 P)))))))))))))))))))))))))
set_option maxRecDepth 100000 in
set_option maxHeartbeats 4000000 in
theorem s_X8_init {d : Nat} [zGh] (P : zP d) : zSim X_X8_init 13 P 0 (b_X8_init P) := by
  unfold b_X8_init
  refine sm_aload_n (pc := 0) (n := 0) dX8_init_0 rfl ?_
  refine sm_objinit (pc := 1) wd_20 wd_21 wd_22 (by decide) dX8_init_1 ?_
  refine sm_aload_n (pc := 4) (n := 0) dX8_init_4 rfl ?_
  refine sm_bipush (pc := 5) dX8_init_5 zc_b_7 ?_
  refine sm_anewarray (pc := 7) (kc := 6) (C := RX7) (by decide) (by decide) (fun _ => rfl) wd_23 (fun _ h => h.2.1) dX8_init_7 ?_
  refine pf_X8_11 (pc := 10) rfl rfl dX8_init_10 ?_
  refine sm_aload_n (pc := 13) (n := 0) dX8_init_13 rfl ?_
  refine sm_bipush (pc := 14) dX8_init_14 zc_b_56 ?_
  refine sm_anewarray (pc := 16) (kc := 7) (C := RX5) (by decide) (by decide) (fun _ => rfl) wd_25 (fun _ h => h.2.2.1) dX8_init_16 ?_
  refine pf_X8_17 (pc := 19) rfl rfl dX8_init_19 ?_
  refine sm_aload_n (pc := 22) (n := 0) dX8_init_22 rfl ?_
  refine sm_bipush (pc := 23) dX8_init_23 zc_b_6 ?_
  refine sm_bipush (pc := 25) dX8_init_25 zc_b_11 ?_
  refine sm_mnaDJ (pc := 27) wd_27 wd_45 dX8_init_27 ?_
  refine pf_X8_23 (pc := 31) rfl rfl dX8_init_31 ?_
  refine sm_aload_n (pc := 34) (n := 0) dX8_init_34 rfl ?_
  refine sm_bipush (pc := 35) dX8_init_35 zc_b_11 ?_
  refine sm_newJ (pc := 37) dX8_init_37 wd_45 ?_
  refine pf_X8_26 (pc := 39) rfl rfl dX8_init_39 ?_
  refine sm_aload_n (pc := 42) (n := 0) dX8_init_42 rfl ?_
  refine sm_new (pc := 43) (ci := 6) (C := RX6) (T := TX6) (N := 2) (ty0 := tyX6) rfl rfl (by decide) (by decide) inz6 tyX6_ok rfl wd_29 wd_30 wd_2 dX8_init_43 ?_
  refine sm_dup (pc := 46) dX8_init_46 ?_
  refine sm_cV (pc := 47) (ci := 6) (n := 1) (mc := 1) (ms := 200) rfl m_X6_init (cr_X8_32 (X := X_X8_init) (fr := 13) (frc := 1) (pc := 47) (mc := 1) (ms := 200) rfl (by decide) dX8_init_47) ?_
  refine pf_X8_33 (pc := 50) rfl rfl dX8_init_50 ?_
  exact scX8_init_53 P
noncomputable def f_X8_init {d : Nat} : List zV → zH d → zP d → Bool := zfn 1 b_X8_init
theorem m_X8_init {d : Nat} : zMet (d := d) X_X8_init yX8_init 13 f_X8_init := zmet_mk (X := X_X8_init) (by decide) rfl rfl s_X8_init

abbrev X_X8_group : zM := (RX8, cX8_group, 5, (some .int), "group")
noncomputable def bX8_group_32 {d : Nat} (P : zP d) : zK d := (xpI 4294967295 (xiret P))
set_option maxRecDepth 100000 in
set_option maxHeartbeats 4000000 in
theorem sbX8_group_32 {d : Nat} [zGh] (P : zP d) : zSim X_X8_group 13 P 32 (bX8_group_32 P) := by
  unfold bX8_group_32
  refine sm_iconst (pc := 32) dX8_group_32 zc_i_m1 ?_
  exact sm_ireturn (pc := 33) dX8_group_33 rfl
noncomputable def lX8_group_128 {d : Nat} (P : zP d) (r128 : zK d) : zK d := (xild 4 (xpI 6 (xcmp tge (xald 0 (xgfR 24 6 (xgfI 23 1 (xiret P)))) (xald 0 (xgfR 24 2 (xild 4 (xaal (xpL 0 (xcS 2 0 0 f_J7_fill_d0a16 (xinc 4 1 r128))))))))))
set_option maxRecDepth 100000 in
set_option maxHeartbeats 4000000 in
theorem slX8_group_128 {d : Nat} [zGh] (P : zP d) (r128 : zK d) (hr128 : zSim X_X8_group 13 P 128 r128) : zSim X_X8_group 13 P 128 (lX8_group_128 P r128) := by
  unfold lX8_group_128
  refine sm_iload (pc := 128) (n := 4) dX8_group_128 ?_
  refine sm_bipush (pc := 130) dX8_group_130 zc_b_6 ?_
  refine sm_icmp_ge (pc := 132) (tgt := 152) dX8_group_132 (by decide) ?_ ?_
  · skip
    refine sm_aload_n (pc := 152) (n := 0) dX8_group_152 rfl ?_
    refine gf_X8_40 (pc := 153) rfl dX8_group_153 ?_
    refine gf_X8_74 (pc := 156) rfl dX8_group_156 ?_
    exact sm_ireturn (pc := 159) dX8_group_159 rfl
  · skip
    refine sm_aload_n (pc := 135) (n := 0) dX8_group_135 rfl ?_
    refine gf_X8_23 (pc := 136) rfl dX8_group_136 ?_
    refine sm_iload (pc := 139) (n := 4) dX8_group_139 ?_
    refine sm_aaload (pc := 141) dX8_group_141 ?_
    refine sm_lconst (pc := 142) dX8_group_142 zc_l_0 ?_
    refine sm_cS (pc := 143) (n := 2) (mc := 0) (ms := 0) m_J7_fill_d0a16 (cr_X8_68 (X := X_X8_group) (fr := 13) (frc := 1) (pc := 143) (mc := 0) (ms := 0) rfl (by decide) dX8_group_143) ?_
    refine sm_iinc (pc := 146) (n := 4) dX8_group_146 zc_i_1 ?_
    refine sm_goto (pc := 149) (tgt := 128) dX8_group_149 (by decide) ?_
    exact hr128
noncomputable def bX8_group_100 {d : Nat} (P : zP d) : zK d := (xald 0 (xald 0 (xgfR 24 1 (xild 3 (xaal (xpfR 24 7 (xald 0 (xgfR 24 5 (xald 0 (xgfR 24 6 (xald 0 (xgfR 24 7 (xcV 18 3 0 0 f_X2_turnTo (xpI 0 (xist 4 (xloop (fun r128 => (lX8_group_128 P r128)) 100000))))))))))))))))
set_option maxRecDepth 100000 in
set_option maxHeartbeats 4000000 in
theorem sbX8_group_100 {d : Nat} [zGh] (P : zP d) : zSim X_X8_group 13 P 100 (bX8_group_100 P) := by
  unfold bX8_group_100
  refine sm_aload_n (pc := 100) (n := 0) dX8_group_100 rfl ?_
  refine sm_aload_n (pc := 101) (n := 0) dX8_group_101 rfl ?_
  refine gf_X8_17 (pc := 102) rfl dX8_group_102 ?_
  refine sm_iload_n (pc := 105) (n := 3) dX8_group_105 rfl ?_
  refine sm_aaload (pc := 106) dX8_group_106 ?_
  refine pf_X8_47 (pc := 107) rfl dX8_group_107 ?_
  refine sm_aload_n (pc := 110) (n := 0) dX8_group_110 rfl ?_
  refine gf_X8_60 (pc := 111) rfl dX8_group_111 ?_
  refine sm_aload_n (pc := 114) (n := 0) dX8_group_114 rfl ?_
  refine gf_X8_40 (pc := 115) rfl dX8_group_115 ?_
  refine sm_aload_n (pc := 118) (n := 0) dX8_group_118 rfl ?_
  refine gf_X8_47 (pc := 119) rfl dX8_group_119 ?_
  refine sm_cV (pc := 122) (ci := 2) (n := 3) (mc := 0) (ms := 0) rfl m_X2_turnTo (cr_X8_64 (X := X_X8_group) (fr := 13) (frc := 1) (pc := 122) (mc := 0) (ms := 0) rfl (by decide) dX8_group_122) ?_
  refine sm_iconst (pc := 125) dX8_group_125 zc_i_0 ?_
  refine sm_istore (pc := 126) (n := 4) dX8_group_126 ?_
  exact sm_loop (fun r128 hr128 => slX8_group_128 P r128 hr128) _
noncomputable def cX8_group_99 {d : Nat} (P : zP d) (j100 : zK d) : zK d := (xaas 7 21 j100)
set_option maxRecDepth 100000 in
set_option maxHeartbeats 4000000 in
theorem scX8_group_99 {d : Nat} [zGh] (P : zP d) (j100 : zK d) (hj100 : zSim X_X8_group 13 P 100 j100) : zSim X_X8_group 13 P 99 (cX8_group_99 P j100) := by
  unfold cX8_group_99
  refine sm_aastore (pc := 99) (kc := 7) (ci := 5) (by decide) (by decide) rfl rfl (fun _ => rfl) dX8_group_99 ?_
  exact hj100
noncomputable def bX8_group_57 {d : Nat} (P : zP d) : zK d := (xald 0 (xald 0 (xgfR 24 0 (xild 1 (xaal (xpfR 24 6 (xild 1 (xild 2 (xcS 2 0 0 f_X8_groupIndex (xist 3 (xald 0 (xgfR 24 1 (xild 3 (xaal (xjoin (bX8_group_100 P) (fun j100 => (xnn j100 (xald 0 (xgfR 24 1 (xild 3 (xnew 21 12 (xdup (xald 0 (xgfR 24 6 (xild 2 (xcV 21 3 170 2000 f_X5_init (cX8_group_99 P j100)))))))))))))))))))))))))))
set_option maxRecDepth 100000 in
set_option maxHeartbeats 4000000 in
theorem sbX8_group_57 {d : Nat} [zGh] (P : zP d) : zSim X_X8_group 13 P 57 (bX8_group_57 P) := by
  unfold bX8_group_57
  refine sm_aload_n (pc := 57) (n := 0) dX8_group_57 rfl ?_
  refine sm_aload_n (pc := 58) (n := 0) dX8_group_58 rfl ?_
  refine gf_X8_11 (pc := 59) rfl dX8_group_59 ?_
  refine sm_iload_n (pc := 62) (n := 1) dX8_group_62 rfl ?_
  refine sm_aaload (pc := 63) dX8_group_63 ?_
  refine pf_X8_40 (pc := 64) rfl dX8_group_64 ?_
  refine sm_iload_n (pc := 67) (n := 1) dX8_group_67 rfl ?_
  refine sm_iload_n (pc := 68) (n := 2) dX8_group_68 rfl ?_
  refine sm_cS (pc := 69) (n := 2) (mc := 0) (ms := 0) m_X8_groupIndex (cr_X8_51 (X := X_X8_group) (fr := 13) (frc := 1) (pc := 69) (mc := 0) (ms := 0) rfl (by decide) dX8_group_69) ?_
  refine sm_istore_n (pc := 72) (n := 3) dX8_group_72 rfl ?_
  refine sm_aload_n (pc := 73) (n := 0) dX8_group_73 rfl ?_
  refine gf_X8_17 (pc := 74) rfl dX8_group_74 ?_
  refine sm_iload_n (pc := 77) (n := 3) dX8_group_77 rfl ?_
  refine sm_aaload (pc := 78) dX8_group_78 ?_
  refine sm_join (pc := 79) (pc' := 100) (sbX8_group_100 P) (fun j100 hj100 => ?_)
  refine sm_ifnonnull (pc := 79) (tgt := 100) dX8_group_79 (by decide) ?_ ?_
  · skip
    exact hj100
  · skip
    refine sm_aload_n (pc := 82) (n := 0) dX8_group_82 rfl ?_
    refine gf_X8_17 (pc := 83) rfl dX8_group_83 ?_
    refine sm_iload_n (pc := 86) (n := 3) dX8_group_86 rfl ?_
    refine sm_new (pc := 87) (ci := 5) (C := RX5) (T := TX5) (N := 12) (ty0 := tyX5) rfl rfl (by decide) (by decide) inz5 tyX5_ok rfl wd_25 wd_327 wd_9 dX8_group_87 ?_
    refine sm_dup (pc := 90) dX8_group_90 ?_
    refine sm_aload_n (pc := 91) (n := 0) dX8_group_91 rfl ?_
    refine gf_X8_40 (pc := 92) rfl dX8_group_92 ?_
    refine sm_iload_n (pc := 95) (n := 2) dX8_group_95 rfl ?_
    refine sm_cV (pc := 96) (ci := 5) (n := 3) (mc := 170) (ms := 2000) rfl m_X5_init (cr_X8_44 (X := X_X8_group) (fr := 13) (frc := 6) (pc := 96) (mc := 170) (ms := 2000) rfl (by decide) dX8_group_96) ?_
    exact scX8_group_99 P j100 hj100
noncomputable def bX8_group_34 {d : Nat} (P : zP d) : zK d := (xald 0 (xgfR 24 0 (xild 1 (xaal (xjoin (bX8_group_57 P) (fun j57 => (xnn j57 (xald 0 (xgfR 24 0 (xild 1 (xnew 23 14 (xdup (xild 1 (xcV 23 2 800 77000 f_X7_init (xaas 6 23 j57)))))))))))))))
set_option maxRecDepth 100000 in
set_option maxHeartbeats 4000000 in
theorem sbX8_group_34 {d : Nat} [zGh] (P : zP d) : zSim X_X8_group 13 P 34 (bX8_group_34 P) := by
  unfold bX8_group_34
  refine sm_aload_n (pc := 34) (n := 0) dX8_group_34 rfl ?_
  refine gf_X8_11 (pc := 35) rfl dX8_group_35 ?_
  refine sm_iload_n (pc := 38) (n := 1) dX8_group_38 rfl ?_
  refine sm_aaload (pc := 39) dX8_group_39 ?_
  refine sm_join (pc := 40) (pc' := 57) (sbX8_group_57 P) (fun j57 hj57 => ?_)
  refine sm_ifnonnull (pc := 40) (tgt := 57) dX8_group_40 (by decide) ?_ ?_
  · skip
    exact hj57
  · skip
    refine sm_aload_n (pc := 43) (n := 0) dX8_group_43 rfl ?_
    refine gf_X8_11 (pc := 44) rfl dX8_group_44 ?_
    refine sm_iload_n (pc := 47) (n := 1) dX8_group_47 rfl ?_
    refine sm_new (pc := 48) (ci := 7) (C := RX7) (T := TX7) (N := 14) (ty0 := tyX7) rfl rfl (by decide) (by decide) inz7 tyX7_ok rfl wd_23 wd_47 wd_3 dX8_group_48 ?_
    refine sm_dup (pc := 51) dX8_group_51 ?_
    refine sm_iload_n (pc := 52) (n := 1) dX8_group_52 rfl ?_
    refine sm_cV (pc := 53) (ci := 7) (n := 2) (mc := 800) (ms := 77000) rfl m_X7_init (cr_X8_37 (X := X_X8_group) (fr := 13) (frc := 12) (pc := 53) (mc := 800) (ms := 77000) rfl (by decide) dX8_group_53) ?_
    refine sm_aastore (pc := 56) (kc := 6) (ci := 7) (by decide) (by decide) rfl rfl (fun _ => rfl) dX8_group_56 ?_
    exact hj57
noncomputable def b_X8_group {d : Nat} (P : zP d) : zK d := (xild 1 (xpI 1 (xjoin (bX8_group_32 P) (fun j32 => (xcmp tge (xild 1 (xpI 6 (xcmp tle (xild 2 (xpI 2 (xjoin (bX8_group_34 P) (fun j34 => (xcmp Nat.beq j34 (xild 2 (xpI 3 (xcmp Nat.beq j34 (xild 2 (xpI 5 (xcmp Nat.beq j34 (xild 2 (xpI 7 (xcmp Nat.beq j34 j32)))))))))))))) j32))) j32)))))
set_option maxRecDepth 100000 in
set_option maxHeartbeats 4000000 in
theorem s_X8_group {d : Nat} [zGh] (P : zP d) : zSim X_X8_group 13 P 0 (b_X8_group P) := by
  unfold b_X8_group
  refine sm_iload_n (pc := 0) (n := 1) dX8_group_0 rfl ?_
  refine sm_iconst (pc := 1) dX8_group_1 zc_i_1 ?_
  refine sm_join (pc := 2) (pc' := 32) (sbX8_group_32 P) (fun j32 hj32 => ?_)
  refine sm_icmp_lt (pc := 2) (tgt := 32) dX8_group_2 (by decide) ?_ ?_
  · skip
    exact hj32
  · skip
    refine sm_iload_n (pc := 5) (n := 1) dX8_group_5 rfl ?_
    refine sm_bipush (pc := 6) dX8_group_6 zc_b_6 ?_
    refine sm_icmp_gt (pc := 8) (tgt := 32) dX8_group_8 (by decide) ?_ ?_
    · skip
      exact hj32
    · skip
      refine sm_iload_n (pc := 11) (n := 2) dX8_group_11 rfl ?_
      refine sm_iconst (pc := 12) dX8_group_12 zc_i_2 ?_
      refine sm_join (pc := 13) (pc' := 34) (sbX8_group_34 P) (fun j34 hj34 => ?_)
      refine sm_icmp_eq (pc := 13) (tgt := 34) dX8_group_13 (by decide) ?_ ?_
      · skip
        exact hj34
      · skip
        refine sm_iload_n (pc := 16) (n := 2) dX8_group_16 rfl ?_
        refine sm_iconst (pc := 17) dX8_group_17 zc_i_3 ?_
        refine sm_icmp_eq (pc := 18) (tgt := 34) dX8_group_18 (by decide) ?_ ?_
        · skip
          exact hj34
        · skip
          refine sm_iload_n (pc := 21) (n := 2) dX8_group_21 rfl ?_
          refine sm_iconst (pc := 22) dX8_group_22 zc_i_5 ?_
          refine sm_icmp_eq (pc := 23) (tgt := 34) dX8_group_23 (by decide) ?_ ?_
          · skip
            exact hj34
          · skip
            refine sm_iload_n (pc := 26) (n := 2) dX8_group_26 rfl ?_
            refine sm_bipush (pc := 27) dX8_group_27 zc_b_7 ?_
            refine sm_icmp_eq (pc := 29) (tgt := 34) dX8_group_29 (by decide) ?_ ?_
            · skip
              exact hj34
            · skip
              exact hj32
noncomputable def f_X8_group {d : Nat} : List zV → zH d → zP d → Bool := zfn 5 b_X8_group
theorem m_X8_group {d : Nat} : zMet (d := d) X_X8_group yX8_group 13 f_X8_group := zmet_mk (X := X_X8_group) (by decide) rfl rfl s_X8_group

abbrev X_X8_feed : zM := (RX8, cX8_feed, 6, (some .int), "feed")
noncomputable def cX8_feed_53 {d : Nat} (P : zP d) : zK d := (xcV 22 2 0 0 f_X6_put (xald 0 (xgfR 24 4 (xgfI 22 1 (xiret P)))))
set_option maxRecDepth 100000 in
set_option maxHeartbeats 4000000 in
theorem scX8_feed_53 {d : Nat} [zGh] (P : zP d) : zSim X_X8_feed 2 P 53 (cX8_feed_53 P) := by
  unfold cX8_feed_53
  refine sm_cV (pc := 53) (ci := 6) (n := 2) (mc := 0) (ms := 0) rfl m_X6_put (cr_X8_82 (X := X_X8_feed) (fr := 2) (frc := 1) (pc := 53) (mc := 0) (ms := 0) rfl (by decide) dX8_feed_53) ?_
  refine sm_aload_n (pc := 56) (n := 0) dX8_feed_56 rfl ?_
  refine gf_X8_33 (pc := 57) rfl dX8_feed_57 ?_
  refine gf_X8_85 (pc := 60) rfl dX8_feed_60 ?_
  exact sm_ireturn (pc := 63) dX8_feed_63 rfl
noncomputable def b_X8_feed {d : Nat} (P : zP d) : zK d := (xald 0 (xgfR 24 4 (xpI 20 (xcV 22 2 0 0 f_X6_hasRoom (xif0 t0eq (xpI 4294967295 (xiret P)) (xald 0 (xgfR 24 4 (xild 1 (xcV 22 2 0 0 f_X6_put (xald 0 (xgfR 24 4 (xild 2 (xcV 22 2 0 0 f_X6_put (xald 0 (xgfR 24 4 (xild 3 (xcV 22 2 0 0 f_X6_put (xald 0 (xgfR 24 4 (xild 4 (xcV 22 2 0 0 f_X6_put (xald 0 (xgfR 24 4 (xild 5 (cX8_feed_53 P)))))))))))))))))))))))))
set_option maxRecDepth 100000 in
set_option maxHeartbeats 4000000 in
theorem s_X8_feed {d : Nat} [zGh] (P : zP d) : zSim X_X8_feed 2 P 0 (b_X8_feed P) := by
  unfold b_X8_feed
  refine sm_aload_n (pc := 0) (n := 0) dX8_feed_0 rfl ?_
  refine gf_X8_33 (pc := 1) rfl dX8_feed_1 ?_
  refine sm_bipush (pc := 4) dX8_feed_4 zc_b_20 ?_
  refine sm_cV (pc := 6) (ci := 6) (n := 2) (mc := 0) (ms := 0) rfl m_X6_hasRoom (cr_X8_78 (X := X_X8_feed) (fr := 2) (frc := 1) (pc := 6) (mc := 0) (ms := 0) rfl (by decide) dX8_feed_6) ?_
  refine sm_if_ne (pc := 9) (tgt := 14) dX8_feed_9 (by decide) ?_ ?_
  · skip
    refine sm_aload_n (pc := 14) (n := 0) dX8_feed_14 rfl ?_
    refine gf_X8_33 (pc := 15) rfl dX8_feed_15 ?_
    refine sm_iload_n (pc := 18) (n := 1) dX8_feed_18 rfl ?_
    refine sm_cV (pc := 19) (ci := 6) (n := 2) (mc := 0) (ms := 0) rfl m_X6_put (cr_X8_82 (X := X_X8_feed) (fr := 2) (frc := 1) (pc := 19) (mc := 0) (ms := 0) rfl (by decide) dX8_feed_19) ?_
    refine sm_aload_n (pc := 22) (n := 0) dX8_feed_22 rfl ?_
    refine gf_X8_33 (pc := 23) rfl dX8_feed_23 ?_
    refine sm_iload_n (pc := 26) (n := 2) dX8_feed_26 rfl ?_
    refine sm_cV (pc := 27) (ci := 6) (n := 2) (mc := 0) (ms := 0) rfl m_X6_put (cr_X8_82 (X := X_X8_feed) (fr := 2) (frc := 1) (pc := 27) (mc := 0) (ms := 0) rfl (by decide) dX8_feed_27) ?_
    refine sm_aload_n (pc := 30) (n := 0) dX8_feed_30 rfl ?_
    refine gf_X8_33 (pc := 31) rfl dX8_feed_31 ?_
    refine sm_iload_n (pc := 34) (n := 3) dX8_feed_34 rfl ?_
    refine sm_cV (pc := 35) (ci := 6) (n := 2) (mc := 0) (ms := 0) rfl m_X6_put (cr_X8_82 (X := X_X8_feed) (fr := 2) (frc := 1) (pc := 35) (mc := 0) (ms := 0) rfl (by decide) dX8_feed_35) ?_
    refine sm_aload_n (pc := 38) (n := 0) dX8_feed_38 rfl ?_
    refine gf_X8_33 (pc := 39) rfl dX8_feed_39 ?_
    refine sm_iload (pc := 42) (n := 4) dX8_feed_42 ?_
    refine sm_cV (pc := 44) (ci := 6) (n := 2) (mc := 0) (ms := 0) rfl m_X6_put (cr_X8_82 (X := X_X8_feed) (fr := 2) (frc := 1) (pc := 44) (mc := 0) (ms := 0) rfl (by decide) dX8_feed_44) ?_
    refine sm_aload_n (pc := 47) (n := 0) dX8_feed_47 rfl ?_
    refine gf_X8_33 (pc := 48) rfl dX8_feed_48 ?_
    refine sm_iload (pc := 51) (n := 5) dX8_feed_51 ?_
    exact scX8_feed_53 P
  · skip
    refine sm_iconst (pc := 12) dX8_feed_12 zc_i_m1 ?_
    exact sm_ireturn (pc := 13) dX8_feed_13 rfl
noncomputable def f_X8_feed {d : Nat} : List zV → zH d → zP d → Bool := zfn 6 b_X8_feed
theorem m_X8_feed {d : Nat} : zMet (d := d) X_X8_feed yX8_feed 2 f_X8_feed := zmet_mk (X := X_X8_feed) (by decide) rfl rfl s_X8_feed

abbrev X_X8_end : zM := (RX8, cX8_end, 2, (some .boolean), "end")
noncomputable def bX8_end_15 {d : Nat} (P : zP d) : zK d := (xpI 0 (xzret P))
set_option maxRecDepth 100000 in
set_option maxHeartbeats 4000000 in
theorem sbX8_end_15 {d : Nat} [zGh] (P : zP d) : zSim X_X8_end 1 P 15 (bX8_end_15 P) := by
  unfold bX8_end_15
  refine sm_iconst (pc := 15) dX8_end_15 zc_i_0 ?_
  exact sm_zreturn (pc := 16) dX8_end_16 rfl
noncomputable def b_X8_end {d : Nat} (P : zP d) : zK d := (xild 1 (xjoin (bX8_end_15 P) (fun j15 => (xif0 t0ge (xild 1 (xald 0 (xgfR 24 4 (xgfI 22 1 (xcmp tle (xald 0 (xgfR 24 4 (xild 1 (xpfI 22 1 (xpI 1 (xzret P)))))) j15))))) j15))))
set_option maxRecDepth 100000 in
set_option maxHeartbeats 4000000 in
theorem s_X8_end {d : Nat} [zGh] (P : zP d) : zSim X_X8_end 1 P 0 (b_X8_end P) := by
  unfold b_X8_end
  refine sm_iload_n (pc := 0) (n := 1) dX8_end_0 rfl ?_
  refine sm_join (pc := 1) (pc' := 15) (sbX8_end_15 P) (fun j15 hj15 => ?_)
  refine sm_if_lt (pc := 1) (tgt := 15) dX8_end_1 (by decide) ?_ ?_
  · skip
    exact hj15
  · skip
    refine sm_iload_n (pc := 4) (n := 1) dX8_end_4 rfl ?_
    refine sm_aload_n (pc := 5) (n := 0) dX8_end_5 rfl ?_
    refine gf_X8_33 (pc := 6) rfl dX8_end_6 ?_
    refine gf_X8_85 (pc := 9) rfl dX8_end_9 ?_
    refine sm_icmp_le (pc := 12) (tgt := 17) dX8_end_12 (by decide) ?_ ?_
    · skip
      refine sm_aload_n (pc := 17) (n := 0) dX8_end_17 rfl ?_
      refine gf_X8_33 (pc := 18) rfl dX8_end_18 ?_
      refine sm_iload_n (pc := 21) (n := 1) dX8_end_21 rfl ?_
      refine pf_X8_85 (pc := 22) rfl dX8_end_22 ?_
      refine sm_iconst (pc := 25) dX8_end_25 zc_i_1 ?_
      exact sm_zreturn (pc := 26) dX8_end_26 rfl
    · skip
      exact hj15
noncomputable def f_X8_end {d : Nat} : List zV → zH d → zP d → Bool := zfn 2 b_X8_end
theorem m_X8_end {d : Nat} : zMet (d := d) X_X8_end yX8_end 1 f_X8_end := zmet_mk (X := X_X8_end) (by decide) rfl rfl s_X8_end

abbrev X_X8_text : zM := (RX8, cX8_text, 3, (some .int), "text")
noncomputable def bX8_text_62 {d : Nat} (P : zP d) : zK d := (xald 0 (xgfR 24 4 (xpI 0 (xpfI 22 1 (xild 2 (xiret P))))))
set_option maxRecDepth 100000 in
set_option maxHeartbeats 4000000 in
theorem sbX8_text_62 {d : Nat} [zGh] (P : zP d) : zSim X_X8_text 30 P 62 (bX8_text_62 P) := by
  unfold bX8_text_62
  refine sm_aload_n (pc := 62) (n := 0) dX8_text_62 rfl ?_
  refine gf_X8_33 (pc := 63) rfl dX8_text_63 ?_
  refine sm_iconst (pc := 66) dX8_text_66 zc_i_0 ?_
  refine pf_X8_85 (pc := 67) rfl dX8_text_67 ?_
  refine sm_iload_n (pc := 70) (n := 2) dX8_text_70 rfl ?_
  exact sm_ireturn (pc := 71) dX8_text_71 rfl
noncomputable def cX8_text_57 {d : Nat} (P : zP d) (j62 : zK d) : zK d := j62
set_option maxRecDepth 100000 in
set_option maxHeartbeats 4000000 in
theorem scX8_text_57 {d : Nat} [zGh] (P : zP d) (j62 : zK d) (hj62 : zSim X_X8_text 30 P 62 j62) : zSim X_X8_text 30 P 57 (cX8_text_57 P j62) := by
  unfold cX8_text_57
  refine sm_goto (pc := 57) (tgt := 62) dX8_text_57 (by decide) ?_
  exact hj62
noncomputable def b_X8_text {d : Nat} (P : zP d) : zK d := (xpI 4294967294 (xist 2 (xild 1 (xcS 1 0 0 f_X8_isSlot (xjoin (bX8_text_62 P) (fun j62 => (xif0 t0eq (xald 0 (xgfR 24 5 (xgfR 18 0 (xcV 17 1 0 0 f_X1_clear j62)))) (xald 0 (xgfR 24 5 (xcV 18 1 0 0 f_X2_read (xif0 t0eq (xpI 4294967295 (xist 2 j62)) (xald 0 (xgfR 24 5 (xgfR 18 1 (xpI 0 (xaal (xpI 0 (xald 0 (xgfR 24 2 (xild 1 (xaal (xpI 0 (xpI 11 (xcpy 2 72 (xpI 0 (xist 2 (cX8_text_57 P j62)))))))))))))))))))))))))))
set_option maxRecDepth 100000 in
set_option maxHeartbeats 4000000 in
theorem s_X8_text {d : Nat} [zGh] (P : zP d) : zSim X_X8_text 30 P 0 (b_X8_text P) := by
  unfold b_X8_text
  refine sm_bipush (pc := 0) dX8_text_0 zc_b_m2 ?_
  refine sm_istore_n (pc := 2) (n := 2) dX8_text_2 rfl ?_
  refine sm_iload_n (pc := 3) (n := 1) dX8_text_3 rfl ?_
  refine sm_cS (pc := 4) (n := 1) (mc := 0) (ms := 0) m_X8_isSlot (cr_X8_88 (X := X_X8_text) (fr := 30) (frc := 1) (pc := 4) (mc := 0) (ms := 0) rfl (by decide) dX8_text_4) ?_
  refine sm_join (pc := 7) (pc' := 62) (sbX8_text_62 P) (fun j62 hj62 => ?_)
  refine sm_if_ne (pc := 7) (tgt := 23) dX8_text_7 (by decide) ?_ ?_
  · skip
    refine sm_aload_n (pc := 23) (n := 0) dX8_text_23 rfl ?_
    refine gf_X8_60 (pc := 24) rfl dX8_text_24 ?_
    refine sm_cV (pc := 27) (ci := 2) (n := 1) (mc := 0) (ms := 0) rfl m_X2_read (cr_X8_100 (X := X_X8_text) (fr := 30) (frc := 29) (pc := 27) (mc := 0) (ms := 0) rfl (by decide) dX8_text_27) ?_
    refine sm_if_eq (pc := 30) (tgt := 60) dX8_text_30 (by decide) ?_ ?_
    · skip
      refine sm_iconst (pc := 60) dX8_text_60 zc_i_m1 ?_
      refine sm_istore_n (pc := 61) (n := 2) dX8_text_61 rfl ?_
      exact hj62
    · skip
      refine sm_aload_n (pc := 33) (n := 0) dX8_text_33 rfl ?_
      refine gf_X8_60 (pc := 34) rfl dX8_text_34 ?_
      refine gf_X8_104 (pc := 37) rfl dX8_text_37 ?_
      refine sm_iconst (pc := 40) dX8_text_40 zc_i_0 ?_
      refine sm_aaload (pc := 41) dX8_text_41 ?_
      refine sm_iconst (pc := 42) dX8_text_42 zc_i_0 ?_
      refine sm_aload_n (pc := 43) (n := 0) dX8_text_43 rfl ?_
      refine gf_X8_23 (pc := 44) rfl dX8_text_44 ?_
      refine sm_iload_n (pc := 47) (n := 1) dX8_text_47 rfl ?_
      refine sm_aaload (pc := 48) dX8_text_48 ?_
      refine sm_iconst (pc := 49) dX8_text_49 zc_i_0 ?_
      refine sm_bipush (pc := 50) dX8_text_50 zc_b_11 ?_
      refine sm_copyJ (pc := 52) wd_771 wd_80 wd_79 wd_7 (by decide) dX8_text_52 ?_
      refine sm_iconst (pc := 55) dX8_text_55 zc_i_0 ?_
      refine sm_istore_n (pc := 56) (n := 2) dX8_text_56 rfl ?_
      exact scX8_text_57 P j62 hj62
  · skip
    refine sm_aload_n (pc := 10) (n := 0) dX8_text_10 rfl ?_
    refine gf_X8_60 (pc := 11) rfl dX8_text_11 ?_
    refine gf_X8_91 (pc := 14) rfl dX8_text_14 ?_
    refine sm_cV (pc := 17) (ci := 1) (n := 1) (mc := 0) (ms := 0) rfl m_X1_clear (cr_X8_95 (X := X_X8_text) (fr := 30) (frc := 1) (pc := 17) (mc := 0) (ms := 0) rfl (by decide) dX8_text_17) ?_
    refine sm_goto (pc := 20) (tgt := 62) dX8_text_20 (by decide) ?_
    exact hj62
noncomputable def f_X8_text {d : Nat} : List zV → zH d → zP d → Bool := zfn 3 b_X8_text
theorem m_X8_text {d : Nat} : zMet (d := d) X_X8_text yX8_text 30 f_X8_text := zmet_mk (X := X_X8_text) (by decide) rfl rfl s_X8_text

abbrev X_X8_fault : zM := (RX8, cX8_fault, 3, (some .int), "fault")
noncomputable def bX8_fault_68 {d : Nat} (P : zP d) : zK d := (xpI 4294967295 (xiret P))
set_option maxRecDepth 100000 in
set_option maxHeartbeats 4000000 in
theorem sbX8_fault_68 {d : Nat} [zGh] (P : zP d) : zSim X_X8_fault 1 P 68 (bX8_fault_68 P) := by
  unfold bX8_fault_68
  refine sm_iconst (pc := 68) dX8_fault_68 zc_i_m1 ?_
  exact sm_ireturn (pc := 69) dX8_fault_69 rfl
noncomputable def bX8_fault_51 {d : Nat} (P : zP d) : zK d := (xild 1 (xpI 10 (xjoin (bX8_fault_68 P) (fun j68 => (xcmp tge (xild 1 (xpI 10 (xbin zsub (xald 2 (xgfI 17 3 (xcmp tge j68 (xald 2 (xgfR 17 2 (xild 1 (xpI 10 (xbin zsub (xald1 0 (xiret P))))))))))))) j68)))))
set_option maxRecDepth 100000 in
set_option maxHeartbeats 4000000 in
theorem sbX8_fault_51 {d : Nat} [zGh] (P : zP d) : zSim X_X8_fault 1 P 51 (bX8_fault_51 P) := by
  unfold bX8_fault_51
  refine sm_iload_n (pc := 51) (n := 1) dX8_fault_51 rfl ?_
  refine sm_bipush (pc := 52) dX8_fault_52 zc_b_10 ?_
  refine sm_join (pc := 54) (pc' := 68) (sbX8_fault_68 P) (fun j68 hj68 => ?_)
  refine sm_icmp_lt (pc := 54) (tgt := 68) dX8_fault_54 (by decide) ?_ ?_
  · skip
    exact hj68
  · skip
    refine sm_iload_n (pc := 57) (n := 1) dX8_fault_57 rfl ?_
    refine sm_bipush (pc := 58) dX8_fault_58 zc_b_10 ?_
    refine sm_isub (pc := 60) dX8_fault_60 ?_
    refine sm_aload_n (pc := 61) (n := 2) dX8_fault_61 rfl ?_
    refine gf_X8_119 (pc := 62) rfl dX8_fault_62 ?_
    refine sm_icmp_lt (pc := 65) (tgt := 70) dX8_fault_65 (by decide) ?_ ?_
    · skip
      refine sm_aload_n (pc := 70) (n := 2) dX8_fault_70 rfl ?_
      refine gf_X8_122 (pc := 71) rfl dX8_fault_71 ?_
      refine sm_iload_n (pc := 74) (n := 1) dX8_fault_74 rfl ?_
      refine sm_bipush (pc := 75) dX8_fault_75 zc_b_10 ?_
      refine sm_isub (pc := 77) dX8_fault_77 ?_
      refine sm_iaload (pc := 78) dX8_fault_78 ?_
      exact sm_ireturn (pc := 79) dX8_fault_79 rfl
    · skip
      exact hj68
noncomputable def bX8_fault_36 {d : Nat} (P : zP d) : zK d := (xald 2 (xgfI 17 0 (xiret P)))
set_option maxRecDepth 100000 in
set_option maxHeartbeats 4000000 in
theorem sbX8_fault_36 {d : Nat} [zGh] (P : zP d) : zSim X_X8_fault 1 P 36 (bX8_fault_36 P) := by
  unfold bX8_fault_36
  refine sm_aload_n (pc := 36) (n := 2) dX8_fault_36 rfl ?_
  refine gf_X8_113 (pc := 37) rfl dX8_fault_37 ?_
  exact sm_ireturn (pc := 40) dX8_fault_40 rfl
noncomputable def bX8_fault_41 {d : Nat} (P : zP d) : zK d := (xald 2 (xgfI 17 1 (xiret P)))
set_option maxRecDepth 100000 in
set_option maxHeartbeats 4000000 in
theorem sbX8_fault_41 {d : Nat} [zGh] (P : zP d) : zSim X_X8_fault 1 P 41 (bX8_fault_41 P) := by
  unfold bX8_fault_41
  refine sm_aload_n (pc := 41) (n := 2) dX8_fault_41 rfl ?_
  refine gf_X8_116 (pc := 42) rfl dX8_fault_42 ?_
  exact sm_ireturn (pc := 45) dX8_fault_45 rfl
noncomputable def bX8_fault_46 {d : Nat} (P : zP d) : zK d := (xald 2 (xgfI 17 3 (xiret P)))
set_option maxRecDepth 100000 in
set_option maxHeartbeats 4000000 in
theorem sbX8_fault_46 {d : Nat} [zGh] (P : zP d) : zSim X_X8_fault 1 P 46 (bX8_fault_46 P) := by
  unfold bX8_fault_46
  refine sm_aload_n (pc := 46) (n := 2) dX8_fault_46 rfl ?_
  refine gf_X8_119 (pc := 47) rfl dX8_fault_47 ?_
  exact sm_ireturn (pc := 50) dX8_fault_50 rfl
noncomputable def b_X8_fault {d : Nat} (P : zP d) : zK d := (xald 0 (xgfR 24 5 (xgfR 18 0 (xast 2 (xild 1 (xtsw [(bX8_fault_36 P), (bX8_fault_41 P), (bX8_fault_46 P)] (bX8_fault_51 P)))))))
set_option maxRecDepth 100000 in
set_option maxHeartbeats 4000000 in
theorem s_X8_fault {d : Nat} [zGh] (P : zP d) : zSim X_X8_fault 1 P 0 (b_X8_fault P) := by
  unfold b_X8_fault
  refine sm_aload_n (pc := 0) (n := 0) dX8_fault_0 rfl ?_
  refine gf_X8_60 (pc := 1) rfl dX8_fault_1 ?_
  refine gf_X8_91 (pc := 4) rfl dX8_fault_4 ?_
  refine sm_astore_n (pc := 7) (n := 2) dX8_fault_7 rfl ?_
  refine sm_iload_n (pc := 8) (n := 1) dX8_fault_8 rfl ?_
  exact sm_tsw3 (pc := 9) (n := 2) (tdf := 51) [36, 41, 46] rfl (by decide) dX8_fault_9 rfl (by decide +kernel) (by decide) (sbX8_fault_51 P) ⟨sbX8_fault_36 P, sbX8_fault_41 P, sbX8_fault_46 P, trivial⟩
noncomputable def f_X8_fault {d : Nat} : List zV → zH d → zP d → Bool := zfn 3 b_X8_fault
theorem m_X8_fault {d : Nat} : zMet (d := d) X_X8_fault yX8_fault 1 f_X8_fault := zmet_mk (X := X_X8_fault) (by decide) rfl rfl s_X8_fault

abbrev X_X8_partition : zM := (RX8, cX8_partition, 4, (some .int), "partition")
noncomputable def bX8_partition_13 {d : Nat} (P : zP d) : zK d := (xpI 4294967295 (xiret P))
set_option maxRecDepth 100000 in
set_option maxHeartbeats 4000000 in
theorem sbX8_partition_13 {d : Nat} [zGh] (P : zP d) : zSim X_X8_partition 2 P 13 (bX8_partition_13 P) := by
  unfold bX8_partition_13
  refine sm_iconst (pc := 13) dX8_partition_13 zc_i_m1 ?_
  exact sm_ireturn (pc := 14) dX8_partition_14 rfl
noncomputable def bX8_partition_45 {d : Nat} (P : zP d) : zK d := (xiret P)
set_option maxRecDepth 100000 in
set_option maxHeartbeats 4000000 in
theorem sbX8_partition_45 {d : Nat} [zGh] (P : zP d) : zSim X_X8_partition 2 P 45 (bX8_partition_45 P) := by
  unfold bX8_partition_45
  exact sm_ireturn (pc := 45) dX8_partition_45 rfl
noncomputable def b_X8_partition {d : Nat} (P : zP d) : zK d := (xald 0 (xild 1 (xcV 24 2 0 0 f_X8_isPartition (xjoin (bX8_partition_13 P) (fun j13 => (xif0 t0eq j13 (xild 2 (xpI 4294967295 (xcmp tge (xald 0 (xgfR 24 6 (xgfR 23 3 (xild 1 (xaal (xast 3 (xild 2 (xpI 4294967295 (xjoin (bX8_partition_45 P) (fun j45 => (xcmp Nat.beq (xald 3 (xgfI 20 1 j45)) (xald 3 (xgfR 20 2 (xild 2 (xcS 2 0 0 f_X8_partAt j45))))))))))))))) j13)))))))))
set_option maxRecDepth 100000 in
set_option maxHeartbeats 4000000 in
theorem s_X8_partition {d : Nat} [zGh] (P : zP d) : zSim X_X8_partition 2 P 0 (b_X8_partition P) := by
  unfold b_X8_partition
  refine sm_aload_n (pc := 0) (n := 0) dX8_partition_0 rfl ?_
  refine sm_iload_n (pc := 1) (n := 1) dX8_partition_1 rfl ?_
  refine sm_cV (pc := 2) (ci := 8) (n := 2) (mc := 0) (ms := 0) rfl m_X8_isPartition (cr_X8_126 (X := X_X8_partition) (fr := 2) (frc := 1) (pc := 2) (mc := 0) (ms := 0) rfl (by decide) dX8_partition_2) ?_
  refine sm_join (pc := 5) (pc' := 13) (sbX8_partition_13 P) (fun j13 hj13 => ?_)
  refine sm_if_eq (pc := 5) (tgt := 13) dX8_partition_5 (by decide) ?_ ?_
  · skip
    exact hj13
  · skip
    refine sm_iload_n (pc := 8) (n := 2) dX8_partition_8 rfl ?_
    refine sm_iconst (pc := 9) dX8_partition_9 zc_i_m1 ?_
    refine sm_icmp_ge (pc := 10) (tgt := 15) dX8_partition_10 (by decide) ?_ ?_
    · skip
      refine sm_aload_n (pc := 15) (n := 0) dX8_partition_15 rfl ?_
      refine gf_X8_40 (pc := 16) rfl dX8_partition_16 ?_
      refine gf_X8_129 (pc := 19) rfl dX8_partition_19 ?_
      refine sm_iload_n (pc := 22) (n := 1) dX8_partition_22 rfl ?_
      refine sm_aaload (pc := 23) dX8_partition_23 ?_
      refine sm_astore_n (pc := 24) (n := 3) dX8_partition_24 rfl ?_
      refine sm_iload_n (pc := 25) (n := 2) dX8_partition_25 rfl ?_
      refine sm_iconst (pc := 26) dX8_partition_26 zc_i_m1 ?_
      refine sm_join (pc := 27) (pc' := 45) (sbX8_partition_45 P) (fun j45 hj45 => ?_)
      refine sm_icmp_ne (pc := 27) (tgt := 37) dX8_partition_27 (by decide) ?_ ?_
      · skip
        refine sm_aload_n (pc := 37) (n := 3) dX8_partition_37 rfl ?_
        refine gf_X8_138 (pc := 38) rfl dX8_partition_38 ?_
        refine sm_iload_n (pc := 41) (n := 2) dX8_partition_41 rfl ?_
        refine sm_cS (pc := 42) (n := 2) (mc := 0) (ms := 0) m_X8_partAt (cr_X8_141 (X := X_X8_partition) (fr := 2) (frc := 1) (pc := 42) (mc := 0) (ms := 0) rfl (by decide) dX8_partition_42) ?_
        exact hj45
      · skip
        refine sm_aload_n (pc := 30) (n := 3) dX8_partition_30 rfl ?_
        refine gf_X8_133 (pc := 31) rfl dX8_partition_31 ?_
        refine sm_goto (pc := 34) (tgt := 45) dX8_partition_34 (by decide) ?_
        exact hj45
    · skip
      exact hj13
noncomputable def f_X8_partition {d : Nat} : List zV → zH d → zP d → Bool := zfn 4 b_X8_partition
theorem m_X8_partition {d : Nat} : zMet (d := d) X_X8_partition yX8_partition 2 f_X8_partition := zmet_mk (X := X_X8_partition) (by decide) rfl rfl s_X8_partition

abbrev X_X8_of : zM := (RX8, cX8_of, 3, (some .int), "of")
noncomputable def bX8_of_159 {d : Nat} (P : zP d) : zK d := (xpI 4294967295 (xiret P))
set_option maxRecDepth 100000 in
set_option maxHeartbeats 4000000 in
theorem sbX8_of_159 {d : Nat} [zGh] (P : zP d) : zSim X_X8_of 2 P 159 (bX8_of_159 P) := by
  unfold bX8_of_159
  refine sm_iconst (pc := 159) dX8_of_159 zc_i_m1 ?_
  exact sm_ireturn (pc := 160) dX8_of_160 rfl
noncomputable def bX8_of_56 {d : Nat} (P : zP d) : zK d := (xald 0 (xgfR 24 7 (xild 1 (xcV 21 2 0 0 f_X5_isRegular (xcS 1 0 0 f_X8_bit (xiret P))))))
set_option maxRecDepth 100000 in
set_option maxHeartbeats 4000000 in
theorem sbX8_of_56 {d : Nat} [zGh] (P : zP d) : zSim X_X8_of 2 P 56 (bX8_of_56 P) := by
  unfold bX8_of_56
  refine sm_aload_n (pc := 56) (n := 0) dX8_of_56 rfl ?_
  refine gf_X8_47 (pc := 57) rfl dX8_of_57 ?_
  refine sm_iload_n (pc := 60) (n := 1) dX8_of_60 rfl ?_
  refine sm_cV (pc := 61) (ci := 5) (n := 2) (mc := 0) (ms := 0) rfl m_X5_isRegular (cr_X8_145 (X := X_X8_of) (fr := 2) (frc := 1) (pc := 61) (mc := 0) (ms := 0) rfl (by decide) dX8_of_61) ?_
  refine sm_cS (pc := 64) (n := 1) (mc := 0) (ms := 0) m_X8_bit (cr_X8_148 (X := X_X8_of) (fr := 2) (frc := 1) (pc := 64) (mc := 0) (ms := 0) rfl (by decide) dX8_of_64) ?_
  exact sm_ireturn (pc := 67) dX8_of_67 rfl
noncomputable def bX8_of_68 {d : Nat} (P : zP d) : zK d := (xald 0 (xgfR 24 7 (xgfR 21 10 (xgfR 16 0 (xild 1 (xald1 0 (xiret P)))))))
set_option maxRecDepth 100000 in
set_option maxHeartbeats 4000000 in
theorem sbX8_of_68 {d : Nat} [zGh] (P : zP d) : zSim X_X8_of 2 P 68 (bX8_of_68 P) := by
  unfold bX8_of_68
  refine sm_aload_n (pc := 68) (n := 0) dX8_of_68 rfl ?_
  refine gf_X8_47 (pc := 69) rfl dX8_of_69 ?_
  refine gf_X8_152 (pc := 72) rfl dX8_of_72 ?_
  refine gf_X8_156 (pc := 75) rfl dX8_of_75 ?_
  refine sm_iload_n (pc := 78) (n := 1) dX8_of_78 rfl ?_
  refine sm_iaload (pc := 79) dX8_of_79 ?_
  exact sm_ireturn (pc := 80) dX8_of_80 rfl
noncomputable def bX8_of_81 {d : Nat} (P : zP d) : zK d := (xald 0 (xgfR 24 7 (xgfR 21 10 (xgfR 16 2 (xild 1 (xald1 0 (xiret P)))))))
set_option maxRecDepth 100000 in
set_option maxHeartbeats 4000000 in
theorem sbX8_of_81 {d : Nat} [zGh] (P : zP d) : zSim X_X8_of 2 P 81 (bX8_of_81 P) := by
  unfold bX8_of_81
  refine sm_aload_n (pc := 81) (n := 0) dX8_of_81 rfl ?_
  refine gf_X8_47 (pc := 82) rfl dX8_of_82 ?_
  refine gf_X8_152 (pc := 85) rfl dX8_of_85 ?_
  refine gf_X8_161 (pc := 88) rfl dX8_of_88 ?_
  refine sm_iload_n (pc := 91) (n := 1) dX8_of_91 rfl ?_
  refine sm_iaload (pc := 92) dX8_of_92 ?_
  exact sm_ireturn (pc := 93) dX8_of_93 rfl
noncomputable def bX8_of_94 {d : Nat} (P : zP d) : zK d := (xald 0 (xgfR 24 6 (xgfR 23 3 (xild 1 (xaal (xgfI 20 5 (xiret P)))))))
set_option maxRecDepth 100000 in
set_option maxHeartbeats 4000000 in
theorem sbX8_of_94 {d : Nat} [zGh] (P : zP d) : zSim X_X8_of 2 P 94 (bX8_of_94 P) := by
  unfold bX8_of_94
  refine sm_aload_n (pc := 94) (n := 0) dX8_of_94 rfl ?_
  refine gf_X8_40 (pc := 95) rfl dX8_of_95 ?_
  refine gf_X8_129 (pc := 98) rfl dX8_of_98 ?_
  refine sm_iload_n (pc := 101) (n := 1) dX8_of_101 rfl ?_
  refine sm_aaload (pc := 102) dX8_of_102 ?_
  refine gf_X8_164 (pc := 103) rfl dX8_of_103 ?_
  exact sm_ireturn (pc := 106) dX8_of_106 rfl
noncomputable def bX8_of_107 {d : Nat} (P : zP d) : zK d := (xald 0 (xgfR 24 7 (xgfR 21 5 (xild 1 (xald1 0 (xiret P))))))
set_option maxRecDepth 100000 in
set_option maxHeartbeats 4000000 in
theorem sbX8_of_107 {d : Nat} [zGh] (P : zP d) : zSim X_X8_of 2 P 107 (bX8_of_107 P) := by
  unfold bX8_of_107
  refine sm_aload_n (pc := 107) (n := 0) dX8_of_107 rfl ?_
  refine gf_X8_47 (pc := 108) rfl dX8_of_108 ?_
  refine gf_X8_167 (pc := 111) rfl dX8_of_111 ?_
  refine sm_iload_n (pc := 114) (n := 1) dX8_of_114 rfl ?_
  refine sm_iaload (pc := 115) dX8_of_115 ?_
  exact sm_ireturn (pc := 116) dX8_of_116 rfl
noncomputable def bX8_of_117 {d : Nat} (P : zP d) : zK d := (xald 0 (xgfR 24 6 (xgfR 23 4 (xild 1 (xald1 0 (xiret P))))))
set_option maxRecDepth 100000 in
set_option maxHeartbeats 4000000 in
theorem sbX8_of_117 {d : Nat} [zGh] (P : zP d) : zSim X_X8_of 2 P 117 (bX8_of_117 P) := by
  unfold bX8_of_117
  refine sm_aload_n (pc := 117) (n := 0) dX8_of_117 rfl ?_
  refine gf_X8_40 (pc := 118) rfl dX8_of_118 ?_
  refine gf_X8_170 (pc := 121) rfl dX8_of_121 ?_
  refine sm_iload_n (pc := 124) (n := 1) dX8_of_124 rfl ?_
  refine sm_iaload (pc := 125) dX8_of_125 ?_
  exact sm_ireturn (pc := 126) dX8_of_126 rfl
noncomputable def bX8_of_145 {d : Nat} (P : zP d) : zK d := (xcS 1 0 0 f_X8_bit (xiret P))
set_option maxRecDepth 100000 in
set_option maxHeartbeats 4000000 in
theorem sbX8_of_145 {d : Nat} [zGh] (P : zP d) : zSim X_X8_of 2 P 145 (bX8_of_145 P) := by
  unfold bX8_of_145
  refine sm_cS (pc := 145) (n := 1) (mc := 0) (ms := 0) m_X8_bit (cr_X8_148 (X := X_X8_of) (fr := 2) (frc := 1) (pc := 145) (mc := 0) (ms := 0) rfl (by decide) dX8_of_145) ?_
  exact sm_ireturn (pc := 148) dX8_of_148 rfl
noncomputable def bX8_of_127 {d : Nat} (P : zP d) : zK d := (xald 0 (xgfR 24 6 (xgfR 23 4 (xild 1 (xald1 0 (xild 1 (xjoin (bX8_of_145 P) (fun j145 => (xcmp Nat.beq (xpI 1 j145) (xpI 0 j145))))))))))
set_option maxRecDepth 100000 in
set_option maxHeartbeats 4000000 in
theorem sbX8_of_127 {d : Nat} [zGh] (P : zP d) : zSim X_X8_of 2 P 127 (bX8_of_127 P) := by
  unfold bX8_of_127
  refine sm_aload_n (pc := 127) (n := 0) dX8_of_127 rfl ?_
  refine gf_X8_40 (pc := 128) rfl dX8_of_128 ?_
  refine gf_X8_170 (pc := 131) rfl dX8_of_131 ?_
  refine sm_iload_n (pc := 134) (n := 1) dX8_of_134 rfl ?_
  refine sm_iaload (pc := 135) dX8_of_135 ?_
  refine sm_iload_n (pc := 136) (n := 1) dX8_of_136 rfl ?_
  refine sm_join (pc := 137) (pc' := 145) (sbX8_of_145 P) (fun j145 hj145 => ?_)
  refine sm_icmp_ne (pc := 137) (tgt := 144) dX8_of_137 (by decide) ?_ ?_
  · skip
    refine sm_iconst (pc := 144) dX8_of_144 zc_i_0 ?_
    exact hj145
  · skip
    refine sm_iconst (pc := 140) dX8_of_140 zc_i_1 ?_
    refine sm_goto (pc := 141) (tgt := 145) dX8_of_141 (by decide) ?_
    exact hj145
noncomputable def bX8_of_149 {d : Nat} (P : zP d) : zK d := (xald 0 (xgfR 24 7 (xgfR 21 2 (xild 1 (xald1 0 (xiret P))))))
set_option maxRecDepth 100000 in
set_option maxHeartbeats 4000000 in
theorem sbX8_of_149 {d : Nat} [zGh] (P : zP d) : zSim X_X8_of 2 P 149 (bX8_of_149 P) := by
  unfold bX8_of_149
  refine sm_aload_n (pc := 149) (n := 0) dX8_of_149 rfl ?_
  refine gf_X8_47 (pc := 150) rfl dX8_of_150 ?_
  refine gf_X8_173 (pc := 153) rfl dX8_of_153 ?_
  refine sm_iload_n (pc := 156) (n := 1) dX8_of_156 rfl ?_
  refine sm_iaload (pc := 157) dX8_of_157 ?_
  exact sm_ireturn (pc := 158) dX8_of_158 rfl
noncomputable def b_X8_of {d : Nat} (P : zP d) : zK d := (xald 0 (xild 1 (xcV 24 2 0 0 f_X8_isPartition (xif0 t0eq (xpI 4294967295 (xiret P)) (xild 2 (xtsw [(bX8_of_56 P), (bX8_of_68 P), (bX8_of_81 P), (bX8_of_94 P), (bX8_of_107 P), (bX8_of_117 P), (bX8_of_127 P), (bX8_of_149 P)] (bX8_of_159 P)))))))
set_option maxRecDepth 100000 in
set_option maxHeartbeats 4000000 in
theorem s_X8_of {d : Nat} [zGh] (P : zP d) : zSim X_X8_of 2 P 0 (b_X8_of P) := by
  unfold b_X8_of
  refine sm_aload_n (pc := 0) (n := 0) dX8_of_0 rfl ?_
  refine sm_iload_n (pc := 1) (n := 1) dX8_of_1 rfl ?_
  refine sm_cV (pc := 2) (ci := 8) (n := 2) (mc := 0) (ms := 0) rfl m_X8_isPartition (cr_X8_126 (X := X_X8_of) (fr := 2) (frc := 1) (pc := 2) (mc := 0) (ms := 0) rfl (by decide) dX8_of_2) ?_
  refine sm_if_ne (pc := 5) (tgt := 10) dX8_of_5 (by decide) ?_ ?_
  · skip
    refine sm_iload_n (pc := 10) (n := 2) dX8_of_10 rfl ?_
    exact sm_tsw3 (pc := 11) (n := 7) (tdf := 159) [56, 68, 81, 94, 107, 117, 127, 149] rfl (by decide) dX8_of_11 rfl (by decide +kernel) (by decide) (sbX8_of_159 P) ⟨sbX8_of_56 P, sbX8_of_68 P, sbX8_of_81 P, sbX8_of_94 P, sbX8_of_107 P, sbX8_of_117 P, sbX8_of_127 P, sbX8_of_149 P, trivial⟩
  · skip
    refine sm_iconst (pc := 8) dX8_of_8 zc_i_m1 ?_
    exact sm_ireturn (pc := 9) dX8_of_9 rfl
noncomputable def f_X8_of {d : Nat} : List zV → zH d → zP d → Bool := zfn 3 b_X8_of
theorem m_X8_of {d : Nat} : zMet (d := d) X_X8_of yX8_of 2 f_X8_of := zmet_mk (X := X_X8_of) (by decide) rfl rfl s_X8_of

abbrev X_X8_core : zM := (RX8, cX8_core, 4, (some .int), "core")
noncomputable def bX8_core_13 {d : Nat} (P : zP d) : zK d := (xpI 4294967295 (xiret P))
set_option maxRecDepth 100000 in
set_option maxHeartbeats 4000000 in
theorem sbX8_core_13 {d : Nat} [zGh] (P : zP d) : zSim X_X8_core 2 P 13 (bX8_core_13 P) := by
  unfold bX8_core_13
  refine sm_iconst (pc := 13) dX8_core_13 zc_i_m1 ?_
  exact sm_ireturn (pc := 14) dX8_core_14 rfl
noncomputable def bX8_core_63 {d : Nat} (P : zP d) : zK d := (xiret P)
set_option maxRecDepth 100000 in
set_option maxHeartbeats 4000000 in
theorem sbX8_core_63 {d : Nat} [zGh] (P : zP d) : zSim X_X8_core 2 P 63 (bX8_core_63 P) := by
  unfold bX8_core_63
  exact sm_ireturn (pc := 63) dX8_core_63 rfl
noncomputable def cX8_core_48 {d : Nat} (P : zP d) (j63 : zK d) : zK d := (xbin zmul (xbin zsub j63))
set_option maxRecDepth 100000 in
set_option maxHeartbeats 4000000 in
theorem scX8_core_48 {d : Nat} [zGh] (P : zP d) (j63 : zK d) (hj63 : zSim X_X8_core 2 P 63 j63) : zSim X_X8_core 2 P 48 (cX8_core_48 P j63) := by
  unfold cX8_core_48
  refine sm_imul (pc := 48) dX8_core_48 ?_
  refine sm_isub (pc := 49) dX8_core_49 ?_
  refine sm_goto (pc := 50) (tgt := 63) dX8_core_50 (by decide) ?_
  exact hj63
noncomputable def b_X8_core {d : Nat} (P : zP d) : zK d := (xald 0 (xild 1 (xcV 24 2 0 0 f_X8_isPartition (xjoin (bX8_core_13 P) (fun j13 => (xif0 t0eq j13 (xild 2 (xpI 4294967295 (xcmp tge (xald 0 (xgfR 24 7 (xgfR 21 10 (xast 3 (xild 2 (xpI 4294967295 (xjoin (bX8_core_63 P) (fun j63 => (xcmp Nat.beq (xald 0 (xgfR 24 6 (xgfI 23 0 (xald 0 (xgfR 24 7 (xgfI 21 1 (xald 3 (xgfR 16 0 (xild 1 (xald1 0 (cX8_core_48 P j63))))))))))) (xald 3 (xgfR 16 1 (xild 1 (xaal (xild 2 (xcS 2 0 0 f_X8_partAt j63))))))))))))))) j13)))))))))
set_option maxRecDepth 100000 in
set_option maxHeartbeats 4000000 in
theorem s_X8_core {d : Nat} [zGh] (P : zP d) : zSim X_X8_core 2 P 0 (b_X8_core P) := by
  unfold b_X8_core
  refine sm_aload_n (pc := 0) (n := 0) dX8_core_0 rfl ?_
  refine sm_iload_n (pc := 1) (n := 1) dX8_core_1 rfl ?_
  refine sm_cV (pc := 2) (ci := 8) (n := 2) (mc := 0) (ms := 0) rfl m_X8_isPartition (cr_X8_126 (X := X_X8_core) (fr := 2) (frc := 1) (pc := 2) (mc := 0) (ms := 0) rfl (by decide) dX8_core_2) ?_
  refine sm_join (pc := 5) (pc' := 13) (sbX8_core_13 P) (fun j13 hj13 => ?_)
  refine sm_if_eq (pc := 5) (tgt := 13) dX8_core_5 (by decide) ?_ ?_
  · skip
    exact hj13
  · skip
    refine sm_iload_n (pc := 8) (n := 2) dX8_core_8 rfl ?_
    refine sm_iconst (pc := 9) dX8_core_9 zc_i_m1 ?_
    refine sm_icmp_ge (pc := 10) (tgt := 15) dX8_core_10 (by decide) ?_ ?_
    · skip
      refine sm_aload_n (pc := 15) (n := 0) dX8_core_15 rfl ?_
      refine gf_X8_47 (pc := 16) rfl dX8_core_16 ?_
      refine gf_X8_152 (pc := 19) rfl dX8_core_19 ?_
      refine sm_astore_n (pc := 22) (n := 3) dX8_core_22 rfl ?_
      refine sm_iload_n (pc := 23) (n := 2) dX8_core_23 rfl ?_
      refine sm_iconst (pc := 24) dX8_core_24 zc_i_m1 ?_
      refine sm_join (pc := 25) (pc' := 63) (sbX8_core_63 P) (fun j63 hj63 => ?_)
      refine sm_icmp_ne (pc := 25) (tgt := 53) dX8_core_25 (by decide) ?_ ?_
      · skip
        refine sm_aload_n (pc := 53) (n := 3) dX8_core_53 rfl ?_
        refine gf_X8_182 (pc := 54) rfl dX8_core_54 ?_
        refine sm_iload_n (pc := 57) (n := 1) dX8_core_57 rfl ?_
        refine sm_aaload (pc := 58) dX8_core_58 ?_
        refine sm_iload_n (pc := 59) (n := 2) dX8_core_59 rfl ?_
        refine sm_cS (pc := 60) (n := 2) (mc := 0) (ms := 0) m_X8_partAt (cr_X8_141 (X := X_X8_core) (fr := 2) (frc := 1) (pc := 60) (mc := 0) (ms := 0) rfl (by decide) dX8_core_60) ?_
        exact hj63
      · skip
        refine sm_aload_n (pc := 28) (n := 0) dX8_core_28 rfl ?_
        refine gf_X8_40 (pc := 29) rfl dX8_core_29 ?_
        refine gf_X8_176 (pc := 32) rfl dX8_core_32 ?_
        refine sm_aload_n (pc := 35) (n := 0) dX8_core_35 rfl ?_
        refine gf_X8_47 (pc := 36) rfl dX8_core_36 ?_
        refine gf_X8_179 (pc := 39) rfl dX8_core_39 ?_
        refine sm_aload_n (pc := 42) (n := 3) dX8_core_42 rfl ?_
        refine gf_X8_156 (pc := 43) rfl dX8_core_43 ?_
        refine sm_iload_n (pc := 46) (n := 1) dX8_core_46 rfl ?_
        refine sm_iaload (pc := 47) dX8_core_47 ?_
        exact scX8_core_48 P j63 hj63
    · skip
      exact hj13
noncomputable def f_X8_core {d : Nat} : List zV → zH d → zP d → Bool := zfn 4 b_X8_core
theorem m_X8_core {d : Nat} : zMet (d := d) X_X8_core yX8_core 2 f_X8_core := zmet_mk (X := X_X8_core) (by decide) rfl rfl s_X8_core

abbrev X_X8_hook : zM := (RX8, cX8_hook, 4, (some .int), "hook")
noncomputable def bX8_hook_25 {d : Nat} (P : zP d) : zK d := (xpI 4294967295 (xiret P))
set_option maxRecDepth 100000 in
set_option maxHeartbeats 4000000 in
theorem sbX8_hook_25 {d : Nat} [zGh] (P : zP d) : zSim X_X8_hook 2 P 25 (bX8_hook_25 P) := by
  unfold bX8_hook_25
  refine sm_iconst (pc := 25) dX8_hook_25 zc_i_m1 ?_
  exact sm_ireturn (pc := 26) dX8_hook_26 rfl
noncomputable def b_X8_hook {d : Nat} (P : zP d) : zK d := (xald 0 (xild 1 (xcV 24 2 0 0 f_X8_isPartition (xjoin (bX8_hook_25 P) (fun j25 => (xif0 t0eq j25 (xald 0 (xgfR 24 6 (xgfR 23 3 (xild 1 (xaal (xild 2 (xild 3 (xcV 20 3 0 0 f_X4_hasCell (xif0 t0eq j25 (xald 0 (xgfR 24 6 (xgfR 23 3 (xild 1 (xaal (xild 2 (xild 3 (xcV 20 3 0 0 f_X4_hookAt (xiret P))))))))))))))))))))))))
set_option maxRecDepth 100000 in
set_option maxHeartbeats 4000000 in
theorem s_X8_hook {d : Nat} [zGh] (P : zP d) : zSim X_X8_hook 2 P 0 (b_X8_hook P) := by
  unfold b_X8_hook
  refine sm_aload_n (pc := 0) (n := 0) dX8_hook_0 rfl ?_
  refine sm_iload_n (pc := 1) (n := 1) dX8_hook_1 rfl ?_
  refine sm_cV (pc := 2) (ci := 8) (n := 2) (mc := 0) (ms := 0) rfl m_X8_isPartition (cr_X8_126 (X := X_X8_hook) (fr := 2) (frc := 1) (pc := 2) (mc := 0) (ms := 0) rfl (by decide) dX8_hook_2) ?_
  refine sm_join (pc := 5) (pc' := 25) (sbX8_hook_25 P) (fun j25 hj25 => ?_)
  refine sm_if_eq (pc := 5) (tgt := 25) dX8_hook_5 (by decide) ?_ ?_
  · skip
    exact hj25
  · skip
    refine sm_aload_n (pc := 8) (n := 0) dX8_hook_8 rfl ?_
    refine gf_X8_40 (pc := 9) rfl dX8_hook_9 ?_
    refine gf_X8_129 (pc := 12) rfl dX8_hook_12 ?_
    refine sm_iload_n (pc := 15) (n := 1) dX8_hook_15 rfl ?_
    refine sm_aaload (pc := 16) dX8_hook_16 ?_
    refine sm_iload_n (pc := 17) (n := 2) dX8_hook_17 rfl ?_
    refine sm_iload_n (pc := 18) (n := 3) dX8_hook_18 rfl ?_
    refine sm_cV (pc := 19) (ci := 4) (n := 3) (mc := 0) (ms := 0) rfl m_X4_hasCell (cr_X8_186 (X := X_X8_hook) (fr := 2) (frc := 1) (pc := 19) (mc := 0) (ms := 0) rfl (by decide) dX8_hook_19) ?_
    refine sm_if_ne (pc := 22) (tgt := 27) dX8_hook_22 (by decide) ?_ ?_
    · skip
      refine sm_aload_n (pc := 27) (n := 0) dX8_hook_27 rfl ?_
      refine gf_X8_40 (pc := 28) rfl dX8_hook_28 ?_
      refine gf_X8_129 (pc := 31) rfl dX8_hook_31 ?_
      refine sm_iload_n (pc := 34) (n := 1) dX8_hook_34 rfl ?_
      refine sm_aaload (pc := 35) dX8_hook_35 ?_
      refine sm_iload_n (pc := 36) (n := 2) dX8_hook_36 rfl ?_
      refine sm_iload_n (pc := 37) (n := 3) dX8_hook_37 rfl ?_
      refine sm_cV (pc := 38) (ci := 4) (n := 3) (mc := 0) (ms := 0) rfl m_X4_hookAt (cr_X8_190 (X := X_X8_hook) (fr := 2) (frc := 1) (pc := 38) (mc := 0) (ms := 0) rfl (by decide) dX8_hook_38) ?_
      exact sm_ireturn (pc := 41) dX8_hook_41 rfl
    · skip
      exact hj25
noncomputable def f_X8_hook {d : Nat} : List zV → zH d → zP d → Bool := zfn 4 b_X8_hook
theorem m_X8_hook {d : Nat} : zMet (d := d) X_X8_hook yX8_hook 2 f_X8_hook := zmet_mk (X := X_X8_hook) (by decide) rfl rfl s_X8_hook

abbrev X_X8_classOf : zM := (RX8, cX8_classOf, 3, (some .int), "classOf")
noncomputable def bX8_classOf_101 {d : Nat} (P : zP d) : zK d := (xpI 4294967294 (xiret P))
set_option maxRecDepth 100000 in
set_option maxHeartbeats 4000000 in
theorem sbX8_classOf_101 {d : Nat} [zGh] (P : zP d) : zSim X_X8_classOf 2 P 101 (bX8_classOf_101 P) := by
  unfold bX8_classOf_101
  refine sm_bipush (pc := 101) dX8_classOf_101 zc_b_m2 ?_
  exact sm_ireturn (pc := 103) dX8_classOf_103 rfl
noncomputable def bX8_classOf_48 {d : Nat} (P : zP d) : zK d := (xald 0 (xgfR 24 6 (xgfR 23 5 (xild 1 (xald1 0 (xiret P))))))
set_option maxRecDepth 100000 in
set_option maxHeartbeats 4000000 in
theorem sbX8_classOf_48 {d : Nat} [zGh] (P : zP d) : zSim X_X8_classOf 2 P 48 (bX8_classOf_48 P) := by
  unfold bX8_classOf_48
  refine sm_aload_n (pc := 48) (n := 0) dX8_classOf_48 rfl ?_
  refine gf_X8_40 (pc := 49) rfl dX8_classOf_49 ?_
  refine gf_X8_193 (pc := 52) rfl dX8_classOf_52 ?_
  refine sm_iload_n (pc := 55) (n := 1) dX8_classOf_55 rfl ?_
  refine sm_iaload (pc := 56) dX8_classOf_56 ?_
  exact sm_ireturn (pc := 57) dX8_classOf_57 rfl
noncomputable def bX8_classOf_58 {d : Nat} (P : zP d) : zK d := (xald 0 (xgfR 24 6 (xgfR 23 6 (xild 1 (xald1 0 (xiret P))))))
set_option maxRecDepth 100000 in
set_option maxHeartbeats 4000000 in
theorem sbX8_classOf_58 {d : Nat} [zGh] (P : zP d) : zSim X_X8_classOf 2 P 58 (bX8_classOf_58 P) := by
  unfold bX8_classOf_58
  refine sm_aload_n (pc := 58) (n := 0) dX8_classOf_58 rfl ?_
  refine gf_X8_40 (pc := 59) rfl dX8_classOf_59 ?_
  refine gf_X8_196 (pc := 62) rfl dX8_classOf_62 ?_
  refine sm_iload_n (pc := 65) (n := 1) dX8_classOf_65 rfl ?_
  refine sm_iaload (pc := 66) dX8_classOf_66 ?_
  exact sm_ireturn (pc := 67) dX8_classOf_67 rfl
noncomputable def bX8_classOf_68 {d : Nat} (P : zP d) : zK d := (xald 0 (xgfR 24 7 (xgfR 21 4 (xild 1 (xald1 1 (xcS 1 0 0 f_X8_bit (xiret P)))))))
set_option maxRecDepth 100000 in
set_option maxHeartbeats 4000000 in
theorem sbX8_classOf_68 {d : Nat} [zGh] (P : zP d) : zSim X_X8_classOf 2 P 68 (bX8_classOf_68 P) := by
  unfold bX8_classOf_68
  refine sm_aload_n (pc := 68) (n := 0) dX8_classOf_68 rfl ?_
  refine gf_X8_47 (pc := 69) rfl dX8_classOf_69 ?_
  refine gf_X8_199 (pc := 72) rfl dX8_classOf_72 ?_
  refine sm_iload_n (pc := 75) (n := 1) dX8_classOf_75 rfl ?_
  refine sm_baload (pc := 76) dX8_classOf_76 ?_
  refine sm_cS (pc := 77) (n := 1) (mc := 0) (ms := 0) m_X8_bit (cr_X8_148 (X := X_X8_classOf) (fr := 2) (frc := 1) (pc := 77) (mc := 0) (ms := 0) rfl (by decide) dX8_classOf_77) ?_
  exact sm_ireturn (pc := 80) dX8_classOf_80 rfl
noncomputable def bX8_classOf_81 {d : Nat} (P : zP d) : zK d := (xald 0 (xgfR 24 6 (xgfR 23 7 (xild 1 (xald1 0 (xiret P))))))
set_option maxRecDepth 100000 in
set_option maxHeartbeats 4000000 in
theorem sbX8_classOf_81 {d : Nat} [zGh] (P : zP d) : zSim X_X8_classOf 2 P 81 (bX8_classOf_81 P) := by
  unfold bX8_classOf_81
  refine sm_aload_n (pc := 81) (n := 0) dX8_classOf_81 rfl ?_
  refine gf_X8_40 (pc := 82) rfl dX8_classOf_82 ?_
  refine gf_X8_203 (pc := 85) rfl dX8_classOf_85 ?_
  refine sm_iload_n (pc := 88) (n := 1) dX8_classOf_88 rfl ?_
  refine sm_iaload (pc := 89) dX8_classOf_89 ?_
  exact sm_ireturn (pc := 90) dX8_classOf_90 rfl
noncomputable def bX8_classOf_91 {d : Nat} (P : zP d) : zK d := (xald 0 (xgfR 24 6 (xgfR 23 8 (xild 1 (xald1 0 (xiret P))))))
set_option maxRecDepth 100000 in
set_option maxHeartbeats 4000000 in
theorem sbX8_classOf_91 {d : Nat} [zGh] (P : zP d) : zSim X_X8_classOf 2 P 91 (bX8_classOf_91 P) := by
  unfold bX8_classOf_91
  refine sm_aload_n (pc := 91) (n := 0) dX8_classOf_91 rfl ?_
  refine gf_X8_40 (pc := 92) rfl dX8_classOf_92 ?_
  refine gf_X8_206 (pc := 95) rfl dX8_classOf_95 ?_
  refine sm_iload_n (pc := 98) (n := 1) dX8_classOf_98 rfl ?_
  refine sm_iaload (pc := 99) dX8_classOf_99 ?_
  exact sm_ireturn (pc := 100) dX8_classOf_100 rfl
noncomputable def b_X8_classOf {d : Nat} (P : zP d) : zK d := (xald 0 (xild 1 (xcV 24 2 0 0 f_X8_isPartition (xif0 t0eq (xpI 4294967294 (xiret P)) (xild 2 (xtsw [(bX8_classOf_48 P), (bX8_classOf_58 P), (bX8_classOf_68 P), (bX8_classOf_81 P), (bX8_classOf_91 P)] (bX8_classOf_101 P)))))))
set_option maxRecDepth 100000 in
set_option maxHeartbeats 4000000 in
theorem s_X8_classOf {d : Nat} [zGh] (P : zP d) : zSim X_X8_classOf 2 P 0 (b_X8_classOf P) := by
  unfold b_X8_classOf
  refine sm_aload_n (pc := 0) (n := 0) dX8_classOf_0 rfl ?_
  refine sm_iload_n (pc := 1) (n := 1) dX8_classOf_1 rfl ?_
  refine sm_cV (pc := 2) (ci := 8) (n := 2) (mc := 0) (ms := 0) rfl m_X8_isPartition (cr_X8_126 (X := X_X8_classOf) (fr := 2) (frc := 1) (pc := 2) (mc := 0) (ms := 0) rfl (by decide) dX8_classOf_2) ?_
  refine sm_if_ne (pc := 5) (tgt := 11) dX8_classOf_5 (by decide) ?_ ?_
  · skip
    refine sm_iload_n (pc := 11) (n := 2) dX8_classOf_11 rfl ?_
    exact sm_tsw3 (pc := 12) (n := 4) (tdf := 101) [48, 58, 68, 81, 91] rfl (by decide) dX8_classOf_12 rfl (by decide +kernel) (by decide) (sbX8_classOf_101 P) ⟨sbX8_classOf_48 P, sbX8_classOf_58 P, sbX8_classOf_68 P, sbX8_classOf_81 P, sbX8_classOf_91 P, trivial⟩
  · skip
    refine sm_bipush (pc := 8) dX8_classOf_8 zc_b_m2 ?_
    exact sm_ireturn (pc := 10) dX8_classOf_10 rfl
noncomputable def f_X8_classOf {d : Nat} : List zV → zH d → zP d → Bool := zfn 3 b_X8_classOf
theorem m_X8_classOf {d : Nat} : zMet (d := d) X_X8_classOf yX8_classOf 2 f_X8_classOf := zmet_mk (X := X_X8_classOf) (by decide) rfl rfl s_X8_classOf

abbrev X_X8_character : zM := (RX8, cX8_character, 3, (some .int), "character")
noncomputable def bX8_character_33 {d : Nat} (P : zP d) : zK d := (xiret P)
set_option maxRecDepth 100000 in
set_option maxHeartbeats 4000000 in
theorem sbX8_character_33 {d : Nat} [zGh] (P : zP d) : zSim X_X8_character 2 P 33 (bX8_character_33 P) := by
  unfold bX8_character_33
  exact sm_ireturn (pc := 33) dX8_character_33 rfl
noncomputable def bX8_character_30 {d : Nat} (P : zP d) (j33 : zK d) : zK d := (xpI 4294966295 j33)
set_option maxRecDepth 100000 in
set_option maxHeartbeats 4000000 in
theorem sbX8_character_30 {d : Nat} [zGh] (P : zP d) (j33 : zK d) (hj33 : zSim X_X8_character 2 P 33 j33) : zSim X_X8_character 2 P 30 (bX8_character_30 P j33) := by
  unfold bX8_character_30
  refine sm_sipush (pc := 30) dX8_character_30 zc_s_m1001 ?_
  exact hj33
noncomputable def b_X8_character {d : Nat} (P : zP d) : zK d := (xald 0 (xild 1 (xcV 24 2 0 0 f_X8_isPartition (xjoin (bX8_character_33 P) (fun j33 => (xjoin (bX8_character_30 P j33) (fun j30 => (xif0 t0eq j30 (xald 0 (xild 2 (xcV 24 2 0 0 f_X8_isPartition (xif0 t0eq j30 (xald 0 (xgfR 24 6 (xgfR 23 12 (xild 1 (xaal (xild 2 (xald1 0 j33)))))))))))))))))))
set_option maxRecDepth 100000 in
set_option maxHeartbeats 4000000 in
theorem s_X8_character {d : Nat} [zGh] (P : zP d) : zSim X_X8_character 2 P 0 (b_X8_character P) := by
  unfold b_X8_character
  refine sm_aload_n (pc := 0) (n := 0) dX8_character_0 rfl ?_
  refine sm_iload_n (pc := 1) (n := 1) dX8_character_1 rfl ?_
  refine sm_cV (pc := 2) (ci := 8) (n := 2) (mc := 0) (ms := 0) rfl m_X8_isPartition (cr_X8_126 (X := X_X8_character) (fr := 2) (frc := 1) (pc := 2) (mc := 0) (ms := 0) rfl (by decide) dX8_character_2) ?_
  refine sm_join (pc := 5) (pc' := 33) (sbX8_character_33 P) (fun j33 hj33 => ?_)
  refine sm_join (pc := 5) (pc' := 30) (sbX8_character_30 P j33 hj33) (fun j30 hj30 => ?_)
  refine sm_if_eq (pc := 5) (tgt := 30) dX8_character_5 (by decide) ?_ ?_
  · skip
    exact hj30
  · skip
    refine sm_aload_n (pc := 8) (n := 0) dX8_character_8 rfl ?_
    refine sm_iload_n (pc := 9) (n := 2) dX8_character_9 rfl ?_
    refine sm_cV (pc := 10) (ci := 8) (n := 2) (mc := 0) (ms := 0) rfl m_X8_isPartition (cr_X8_126 (X := X_X8_character) (fr := 2) (frc := 1) (pc := 10) (mc := 0) (ms := 0) rfl (by decide) dX8_character_10) ?_
    refine sm_if_eq (pc := 13) (tgt := 30) dX8_character_13 (by decide) ?_ ?_
    · skip
      exact hj30
    · skip
      refine sm_aload_n (pc := 16) (n := 0) dX8_character_16 rfl ?_
      refine gf_X8_40 (pc := 17) rfl dX8_character_17 ?_
      refine gf_X8_209 (pc := 20) rfl dX8_character_20 ?_
      refine sm_iload_n (pc := 23) (n := 1) dX8_character_23 rfl ?_
      refine sm_aaload (pc := 24) dX8_character_24 ?_
      refine sm_iload_n (pc := 25) (n := 2) dX8_character_25 rfl ?_
      refine sm_iaload (pc := 26) dX8_character_26 ?_
      refine sm_goto (pc := 27) (tgt := 33) dX8_character_27 (by decide) ?_
      exact hj33
noncomputable def f_X8_character {d : Nat} : List zV → zH d → zP d → Bool := zfn 3 b_X8_character
theorem m_X8_character {d : Nat} : zMet (d := d) X_X8_character yX8_character 2 f_X8_character := zmet_mk (X := X_X8_character) (by decide) rfl rfl s_X8_character

abbrev X_X8_modular : zM := (RX8, cX8_modular, 3, (some .int), "modular")
noncomputable def bX8_modular_28 {d : Nat} (P : zP d) : zK d := (xpI 4294966295 (xiret P))
set_option maxRecDepth 100000 in
set_option maxHeartbeats 4000000 in
theorem sbX8_modular_28 {d : Nat} [zGh] (P : zP d) : zSim X_X8_modular 3 P 28 (bX8_modular_28 P) := by
  unfold bX8_modular_28
  refine sm_sipush (pc := 28) dX8_modular_28 zc_s_m1001 ?_
  exact sm_ireturn (pc := 31) dX8_modular_31 rfl
noncomputable def b_X8_modular {d : Nat} (P : zP d) : zK d := (xald 0 (xild 1 (xcV 24 2 0 0 f_X8_isRegularPartition (xjoin (bX8_modular_28 P) (fun j28 => (xif0 t0eq j28 (xald 0 (xild 2 (xcV 24 2 0 0 f_X8_isPartition (xif0 t0eq j28 (xald 0 (xgfR 24 7 (xgfR 21 4 (xild 2 (xald1 1 (xif0 t0eq j28 (xald 0 (xgfR 24 7 (xgfR 21 6 (xild 1 (xaal (xild 2 (xald1 0 (xiret P))))))))))))))))))))))))
set_option maxRecDepth 100000 in
set_option maxHeartbeats 4000000 in
theorem s_X8_modular {d : Nat} [zGh] (P : zP d) : zSim X_X8_modular 3 P 0 (b_X8_modular P) := by
  unfold b_X8_modular
  refine sm_aload_n (pc := 0) (n := 0) dX8_modular_0 rfl ?_
  refine sm_iload_n (pc := 1) (n := 1) dX8_modular_1 rfl ?_
  refine sm_cV (pc := 2) (ci := 8) (n := 2) (mc := 0) (ms := 0) rfl m_X8_isRegularPartition (cr_X8_212 (X := X_X8_modular) (fr := 3) (frc := 2) (pc := 2) (mc := 0) (ms := 0) rfl (by decide) dX8_modular_2) ?_
  refine sm_join (pc := 5) (pc' := 28) (sbX8_modular_28 P) (fun j28 hj28 => ?_)
  refine sm_if_eq (pc := 5) (tgt := 28) dX8_modular_5 (by decide) ?_ ?_
  · skip
    exact hj28
  · skip
    refine sm_aload_n (pc := 8) (n := 0) dX8_modular_8 rfl ?_
    refine sm_iload_n (pc := 9) (n := 2) dX8_modular_9 rfl ?_
    refine sm_cV (pc := 10) (ci := 8) (n := 2) (mc := 0) (ms := 0) rfl m_X8_isPartition (cr_X8_126 (X := X_X8_modular) (fr := 3) (frc := 1) (pc := 10) (mc := 0) (ms := 0) rfl (by decide) dX8_modular_10) ?_
    refine sm_if_eq (pc := 13) (tgt := 28) dX8_modular_13 (by decide) ?_ ?_
    · skip
      exact hj28
    · skip
      refine sm_aload_n (pc := 16) (n := 0) dX8_modular_16 rfl ?_
      refine gf_X8_47 (pc := 17) rfl dX8_modular_17 ?_
      refine gf_X8_199 (pc := 20) rfl dX8_modular_20 ?_
      refine sm_iload_n (pc := 23) (n := 2) dX8_modular_23 rfl ?_
      refine sm_baload (pc := 24) dX8_modular_24 ?_
      refine sm_if_ne (pc := 25) (tgt := 32) dX8_modular_25 (by decide) ?_ ?_
      · skip
        refine sm_aload_n (pc := 32) (n := 0) dX8_modular_32 rfl ?_
        refine gf_X8_47 (pc := 33) rfl dX8_modular_33 ?_
        refine gf_X8_215 (pc := 36) rfl dX8_modular_36 ?_
        refine sm_iload_n (pc := 39) (n := 1) dX8_modular_39 rfl ?_
        refine sm_aaload (pc := 40) dX8_modular_40 ?_
        refine sm_iload_n (pc := 41) (n := 2) dX8_modular_41 rfl ?_
        refine sm_iaload (pc := 42) dX8_modular_42 ?_
        exact sm_ireturn (pc := 43) dX8_modular_43 rfl
      · skip
        exact hj28
noncomputable def f_X8_modular {d : Nat} : List zV → zH d → zP d → Bool := zfn 3 b_X8_modular
theorem m_X8_modular {d : Nat} : zMet (d := d) X_X8_modular yX8_modular 3 f_X8_modular := zmet_mk (X := X_X8_modular) (by decide) rfl rfl s_X8_modular

abbrev X_X8_projective : zM := (RX8, cX8_projective, 3, (some .int), "projective")
noncomputable def bX8_projective_33 {d : Nat} (P : zP d) : zK d := (xiret P)
set_option maxRecDepth 100000 in
set_option maxHeartbeats 4000000 in
theorem sbX8_projective_33 {d : Nat} [zGh] (P : zP d) : zSim X_X8_projective 3 P 33 (bX8_projective_33 P) := by
  unfold bX8_projective_33
  exact sm_ireturn (pc := 33) dX8_projective_33 rfl
noncomputable def bX8_projective_30 {d : Nat} (P : zP d) (j33 : zK d) : zK d := (xpI 4294966295 j33)
set_option maxRecDepth 100000 in
set_option maxHeartbeats 4000000 in
theorem sbX8_projective_30 {d : Nat} [zGh] (P : zP d) (j33 : zK d) (hj33 : zSim X_X8_projective 3 P 33 j33) : zSim X_X8_projective 3 P 30 (bX8_projective_30 P j33) := by
  unfold bX8_projective_30
  refine sm_sipush (pc := 30) dX8_projective_30 zc_s_m1001 ?_
  exact hj33
noncomputable def b_X8_projective {d : Nat} (P : zP d) : zK d := (xald 0 (xild 1 (xcV 24 2 0 0 f_X8_isRegularPartition (xjoin (bX8_projective_33 P) (fun j33 => (xjoin (bX8_projective_30 P j33) (fun j30 => (xif0 t0eq j30 (xald 0 (xild 2 (xcV 24 2 0 0 f_X8_isPartition (xif0 t0eq j30 (xald 0 (xgfR 24 7 (xgfR 21 9 (xild 1 (xaal (xild 2 (xald1 0 j33)))))))))))))))))))
set_option maxRecDepth 100000 in
set_option maxHeartbeats 4000000 in
theorem s_X8_projective {d : Nat} [zGh] (P : zP d) : zSim X_X8_projective 3 P 0 (b_X8_projective P) := by
  unfold b_X8_projective
  refine sm_aload_n (pc := 0) (n := 0) dX8_projective_0 rfl ?_
  refine sm_iload_n (pc := 1) (n := 1) dX8_projective_1 rfl ?_
  refine sm_cV (pc := 2) (ci := 8) (n := 2) (mc := 0) (ms := 0) rfl m_X8_isRegularPartition (cr_X8_212 (X := X_X8_projective) (fr := 3) (frc := 2) (pc := 2) (mc := 0) (ms := 0) rfl (by decide) dX8_projective_2) ?_
  refine sm_join (pc := 5) (pc' := 33) (sbX8_projective_33 P) (fun j33 hj33 => ?_)
  refine sm_join (pc := 5) (pc' := 30) (sbX8_projective_30 P j33 hj33) (fun j30 hj30 => ?_)
  refine sm_if_eq (pc := 5) (tgt := 30) dX8_projective_5 (by decide) ?_ ?_
  · skip
    exact hj30
  · skip
    refine sm_aload_n (pc := 8) (n := 0) dX8_projective_8 rfl ?_
    refine sm_iload_n (pc := 9) (n := 2) dX8_projective_9 rfl ?_
    refine sm_cV (pc := 10) (ci := 8) (n := 2) (mc := 0) (ms := 0) rfl m_X8_isPartition (cr_X8_126 (X := X_X8_projective) (fr := 3) (frc := 1) (pc := 10) (mc := 0) (ms := 0) rfl (by decide) dX8_projective_10) ?_
    refine sm_if_eq (pc := 13) (tgt := 30) dX8_projective_13 (by decide) ?_ ?_
    · skip
      exact hj30
    · skip
      refine sm_aload_n (pc := 16) (n := 0) dX8_projective_16 rfl ?_
      refine gf_X8_47 (pc := 17) rfl dX8_projective_17 ?_
      refine gf_X8_218 (pc := 20) rfl dX8_projective_20 ?_
      refine sm_iload_n (pc := 23) (n := 1) dX8_projective_23 rfl ?_
      refine sm_aaload (pc := 24) dX8_projective_24 ?_
      refine sm_iload_n (pc := 25) (n := 2) dX8_projective_25 rfl ?_
      refine sm_iaload (pc := 26) dX8_projective_26 ?_
      refine sm_goto (pc := 27) (tgt := 33) dX8_projective_27 (by decide) ?_
      exact hj33
noncomputable def f_X8_projective {d : Nat} : List zV → zH d → zP d → Bool := zfn 3 b_X8_projective
theorem m_X8_projective {d : Nat} : zMet (d := d) X_X8_projective yX8_projective 3 f_X8_projective := zmet_mk (X := X_X8_projective) (by decide) rfl rfl s_X8_projective

abbrev X_X8_decomposition : zM := (RX8, cX8_decomposition, 3, (some .int), "decomposition")
noncomputable def bX8_decomposition_31 {d : Nat} (P : zP d) : zK d := (xiret P)
set_option maxRecDepth 100000 in
set_option maxHeartbeats 4000000 in
theorem sbX8_decomposition_31 {d : Nat} [zGh] (P : zP d) : zSim X_X8_decomposition 3 P 31 (bX8_decomposition_31 P) := by
  unfold bX8_decomposition_31
  exact sm_ireturn (pc := 31) dX8_decomposition_31 rfl
noncomputable def bX8_decomposition_30 {d : Nat} (P : zP d) (j31 : zK d) : zK d := (xpI 4294967295 j31)
set_option maxRecDepth 100000 in
set_option maxHeartbeats 4000000 in
theorem sbX8_decomposition_30 {d : Nat} [zGh] (P : zP d) (j31 : zK d) (hj31 : zSim X_X8_decomposition 3 P 31 j31) : zSim X_X8_decomposition 3 P 30 (bX8_decomposition_30 P j31) := by
  unfold bX8_decomposition_30
  refine sm_iconst (pc := 30) dX8_decomposition_30 zc_i_m1 ?_
  exact hj31
noncomputable def b_X8_decomposition {d : Nat} (P : zP d) : zK d := (xald 0 (xild 1 (xcV 24 2 0 0 f_X8_isPartition (xjoin (bX8_decomposition_31 P) (fun j31 => (xjoin (bX8_decomposition_30 P j31) (fun j30 => (xif0 t0eq j30 (xald 0 (xild 2 (xcV 24 2 0 0 f_X8_isRegularPartition (xif0 t0eq j30 (xald 0 (xgfR 24 7 (xgfR 21 7 (xild 1 (xaal (xild 2 (xald1 0 j31)))))))))))))))))))
set_option maxRecDepth 100000 in
set_option maxHeartbeats 4000000 in
theorem s_X8_decomposition {d : Nat} [zGh] (P : zP d) : zSim X_X8_decomposition 3 P 0 (b_X8_decomposition P) := by
  unfold b_X8_decomposition
  refine sm_aload_n (pc := 0) (n := 0) dX8_decomposition_0 rfl ?_
  refine sm_iload_n (pc := 1) (n := 1) dX8_decomposition_1 rfl ?_
  refine sm_cV (pc := 2) (ci := 8) (n := 2) (mc := 0) (ms := 0) rfl m_X8_isPartition (cr_X8_126 (X := X_X8_decomposition) (fr := 3) (frc := 1) (pc := 2) (mc := 0) (ms := 0) rfl (by decide) dX8_decomposition_2) ?_
  refine sm_join (pc := 5) (pc' := 31) (sbX8_decomposition_31 P) (fun j31 hj31 => ?_)
  refine sm_join (pc := 5) (pc' := 30) (sbX8_decomposition_30 P j31 hj31) (fun j30 hj30 => ?_)
  refine sm_if_eq (pc := 5) (tgt := 30) dX8_decomposition_5 (by decide) ?_ ?_
  · skip
    exact hj30
  · skip
    refine sm_aload_n (pc := 8) (n := 0) dX8_decomposition_8 rfl ?_
    refine sm_iload_n (pc := 9) (n := 2) dX8_decomposition_9 rfl ?_
    refine sm_cV (pc := 10) (ci := 8) (n := 2) (mc := 0) (ms := 0) rfl m_X8_isRegularPartition (cr_X8_212 (X := X_X8_decomposition) (fr := 3) (frc := 2) (pc := 10) (mc := 0) (ms := 0) rfl (by decide) dX8_decomposition_10) ?_
    refine sm_if_eq (pc := 13) (tgt := 30) dX8_decomposition_13 (by decide) ?_ ?_
    · skip
      exact hj30
    · skip
      refine sm_aload_n (pc := 16) (n := 0) dX8_decomposition_16 rfl ?_
      refine gf_X8_47 (pc := 17) rfl dX8_decomposition_17 ?_
      refine gf_X8_221 (pc := 20) rfl dX8_decomposition_20 ?_
      refine sm_iload_n (pc := 23) (n := 1) dX8_decomposition_23 rfl ?_
      refine sm_aaload (pc := 24) dX8_decomposition_24 ?_
      refine sm_iload_n (pc := 25) (n := 2) dX8_decomposition_25 rfl ?_
      refine sm_iaload (pc := 26) dX8_decomposition_26 ?_
      refine sm_goto (pc := 27) (tgt := 31) dX8_decomposition_27 (by decide) ?_
      exact hj31
noncomputable def f_X8_decomposition {d : Nat} : List zV → zH d → zP d → Bool := zfn 3 b_X8_decomposition
theorem m_X8_decomposition {d : Nat} : zMet (d := d) X_X8_decomposition yX8_decomposition 3 f_X8_decomposition := zmet_mk (X := X_X8_decomposition) (by decide) rfl rfl s_X8_decomposition

abbrev X_X8_cartan : zM := (RX8, cX8_cartan, 3, (some .int), "cartan")
noncomputable def bX8_cartan_31 {d : Nat} (P : zP d) : zK d := (xiret P)
set_option maxRecDepth 100000 in
set_option maxHeartbeats 4000000 in
theorem sbX8_cartan_31 {d : Nat} [zGh] (P : zP d) : zSim X_X8_cartan 3 P 31 (bX8_cartan_31 P) := by
  unfold bX8_cartan_31
  exact sm_ireturn (pc := 31) dX8_cartan_31 rfl
noncomputable def bX8_cartan_30 {d : Nat} (P : zP d) (j31 : zK d) : zK d := (xpI 4294967295 j31)
set_option maxRecDepth 100000 in
set_option maxHeartbeats 4000000 in
theorem sbX8_cartan_30 {d : Nat} [zGh] (P : zP d) (j31 : zK d) (hj31 : zSim X_X8_cartan 3 P 31 j31) : zSim X_X8_cartan 3 P 30 (bX8_cartan_30 P j31) := by
  unfold bX8_cartan_30
  refine sm_iconst (pc := 30) dX8_cartan_30 zc_i_m1 ?_
  exact hj31
noncomputable def b_X8_cartan {d : Nat} (P : zP d) : zK d := (xald 0 (xild 1 (xcV 24 2 0 0 f_X8_isRegularPartition (xjoin (bX8_cartan_31 P) (fun j31 => (xjoin (bX8_cartan_30 P j31) (fun j30 => (xif0 t0eq j30 (xald 0 (xild 2 (xcV 24 2 0 0 f_X8_isRegularPartition (xif0 t0eq j30 (xald 0 (xgfR 24 7 (xgfR 21 8 (xild 1 (xaal (xild 2 (xald1 0 j31)))))))))))))))))))
set_option maxRecDepth 100000 in
set_option maxHeartbeats 4000000 in
theorem s_X8_cartan {d : Nat} [zGh] (P : zP d) : zSim X_X8_cartan 3 P 0 (b_X8_cartan P) := by
  unfold b_X8_cartan
  refine sm_aload_n (pc := 0) (n := 0) dX8_cartan_0 rfl ?_
  refine sm_iload_n (pc := 1) (n := 1) dX8_cartan_1 rfl ?_
  refine sm_cV (pc := 2) (ci := 8) (n := 2) (mc := 0) (ms := 0) rfl m_X8_isRegularPartition (cr_X8_212 (X := X_X8_cartan) (fr := 3) (frc := 2) (pc := 2) (mc := 0) (ms := 0) rfl (by decide) dX8_cartan_2) ?_
  refine sm_join (pc := 5) (pc' := 31) (sbX8_cartan_31 P) (fun j31 hj31 => ?_)
  refine sm_join (pc := 5) (pc' := 30) (sbX8_cartan_30 P j31 hj31) (fun j30 hj30 => ?_)
  refine sm_if_eq (pc := 5) (tgt := 30) dX8_cartan_5 (by decide) ?_ ?_
  · skip
    exact hj30
  · skip
    refine sm_aload_n (pc := 8) (n := 0) dX8_cartan_8 rfl ?_
    refine sm_iload_n (pc := 9) (n := 2) dX8_cartan_9 rfl ?_
    refine sm_cV (pc := 10) (ci := 8) (n := 2) (mc := 0) (ms := 0) rfl m_X8_isRegularPartition (cr_X8_212 (X := X_X8_cartan) (fr := 3) (frc := 2) (pc := 10) (mc := 0) (ms := 0) rfl (by decide) dX8_cartan_10) ?_
    refine sm_if_eq (pc := 13) (tgt := 30) dX8_cartan_13 (by decide) ?_ ?_
    · skip
      exact hj30
    · skip
      refine sm_aload_n (pc := 16) (n := 0) dX8_cartan_16 rfl ?_
      refine gf_X8_47 (pc := 17) rfl dX8_cartan_17 ?_
      refine gf_X8_224 (pc := 20) rfl dX8_cartan_20 ?_
      refine sm_iload_n (pc := 23) (n := 1) dX8_cartan_23 rfl ?_
      refine sm_aaload (pc := 24) dX8_cartan_24 ?_
      refine sm_iload_n (pc := 25) (n := 2) dX8_cartan_25 rfl ?_
      refine sm_iaload (pc := 26) dX8_cartan_26 ?_
      refine sm_goto (pc := 27) (tgt := 31) dX8_cartan_27 (by decide) ?_
      exact hj31
noncomputable def f_X8_cartan {d : Nat} : List zV → zH d → zP d → Bool := zfn 3 b_X8_cartan
theorem m_X8_cartan {d : Nat} : zMet (d := d) X_X8_cartan yX8_cartan 3 f_X8_cartan := zmet_mk (X := X_X8_cartan) (by decide) rfl rfl s_X8_cartan

abbrev X_X8_tableau : zM := (RX8, cX8_tableau, 6, (some .int), "tableau")
noncomputable def bX8_tableau_56 {d : Nat} (P : zP d) : zK d := (xpI 4294967295 (xiret P))
set_option maxRecDepth 100000 in
set_option maxHeartbeats 4000000 in
theorem sbX8_tableau_56 {d : Nat} [zGh] (P : zP d) : zSim X_X8_tableau 2 P 56 (bX8_tableau_56 P) := by
  unfold bX8_tableau_56
  refine sm_iconst (pc := 56) dX8_tableau_56 zc_i_m1 ?_
  exact sm_ireturn (pc := 57) dX8_tableau_57 rfl
noncomputable def cX8_tableau_58 {d : Nat} (P : zP d) : zK d := (xald 5 (xgfR 20 6 (xild 2 (xaal (xald 5 (xgfR 20 4 (xild 3 (xald1 0 (xild 4 (xbin zadd (xald1 0 (xiret P))))))))))))
set_option maxRecDepth 100000 in
set_option maxHeartbeats 4000000 in
theorem scX8_tableau_58 {d : Nat} [zGh] (P : zP d) : zSim X_X8_tableau 2 P 58 (cX8_tableau_58 P) := by
  unfold cX8_tableau_58
  refine sm_aload (pc := 58) (n := 5) dX8_tableau_58 ?_
  refine gf_X8_227 (pc := 60) rfl dX8_tableau_60 ?_
  refine sm_iload_n (pc := 63) (n := 2) dX8_tableau_63 rfl ?_
  refine sm_aaload (pc := 64) dX8_tableau_64 ?_
  refine sm_aload (pc := 65) (n := 5) dX8_tableau_65 ?_
  refine gf_X8_230 (pc := 67) rfl dX8_tableau_67 ?_
  refine sm_iload_n (pc := 70) (n := 3) dX8_tableau_70 rfl ?_
  refine sm_iaload (pc := 71) dX8_tableau_71 ?_
  refine sm_iload (pc := 72) (n := 4) dX8_tableau_72 ?_
  refine sm_iadd (pc := 74) dX8_tableau_74 ?_
  refine sm_iaload (pc := 75) dX8_tableau_75 ?_
  exact sm_ireturn (pc := 76) dX8_tableau_76 rfl
noncomputable def b_X8_tableau {d : Nat} (P : zP d) : zK d := (xald 0 (xild 1 (xcV 24 2 0 0 f_X8_isPartition (xif0 t0eq (xpI 4294967295 (xiret P)) (xald 0 (xgfR 24 6 (xgfR 23 3 (xild 1 (xaal (xast 5 (xild 3 (xpI 4294967295 (xcmp Nat.beq (xald 5 (xgfI 20 5 (xiret P))) (xild 2 (xjoin (bX8_tableau_56 P) (fun j56 => (xif0 t0ge (xild 2 (xald 5 (xgfI 20 5 (xcmp tge j56 (xald 5 (xild 3 (xild 4 (xcV 20 3 0 0 f_X4_hasCell (xif0 t0eq j56 (cX8_tableau_58 P)))))))))) j56)))))))))))))))))
set_option maxRecDepth 100000 in
set_option maxHeartbeats 4000000 in
theorem s_X8_tableau {d : Nat} [zGh] (P : zP d) : zSim X_X8_tableau 2 P 0 (b_X8_tableau P) := by
  unfold b_X8_tableau
  refine sm_aload_n (pc := 0) (n := 0) dX8_tableau_0 rfl ?_
  refine sm_iload_n (pc := 1) (n := 1) dX8_tableau_1 rfl ?_
  refine sm_cV (pc := 2) (ci := 8) (n := 2) (mc := 0) (ms := 0) rfl m_X8_isPartition (cr_X8_126 (X := X_X8_tableau) (fr := 2) (frc := 1) (pc := 2) (mc := 0) (ms := 0) rfl (by decide) dX8_tableau_2) ?_
  refine sm_if_ne (pc := 5) (tgt := 10) dX8_tableau_5 (by decide) ?_ ?_
  · skip
    refine sm_aload_n (pc := 10) (n := 0) dX8_tableau_10 rfl ?_
    refine gf_X8_40 (pc := 11) rfl dX8_tableau_11 ?_
    refine gf_X8_129 (pc := 14) rfl dX8_tableau_14 ?_
    refine sm_iload_n (pc := 17) (n := 1) dX8_tableau_17 rfl ?_
    refine sm_aaload (pc := 18) dX8_tableau_18 ?_
    refine sm_astore (pc := 19) (n := 5) dX8_tableau_19 ?_
    refine sm_iload_n (pc := 21) (n := 3) dX8_tableau_21 rfl ?_
    refine sm_iconst (pc := 22) dX8_tableau_22 zc_i_m1 ?_
    refine sm_icmp_ne (pc := 23) (tgt := 32) dX8_tableau_23 (by decide) ?_ ?_
    · skip
      refine sm_iload_n (pc := 32) (n := 2) dX8_tableau_32 rfl ?_
      refine sm_join (pc := 33) (pc' := 56) (sbX8_tableau_56 P) (fun j56 hj56 => ?_)
      refine sm_if_lt (pc := 33) (tgt := 56) dX8_tableau_33 (by decide) ?_ ?_
      · skip
        exact hj56
      · skip
        refine sm_iload_n (pc := 36) (n := 2) dX8_tableau_36 rfl ?_
        refine sm_aload (pc := 37) (n := 5) dX8_tableau_37 ?_
        refine gf_X8_164 (pc := 39) rfl dX8_tableau_39 ?_
        refine sm_icmp_ge (pc := 42) (tgt := 56) dX8_tableau_42 (by decide) ?_ ?_
        · skip
          exact hj56
        · skip
          refine sm_aload (pc := 45) (n := 5) dX8_tableau_45 ?_
          refine sm_iload_n (pc := 47) (n := 3) dX8_tableau_47 rfl ?_
          refine sm_iload (pc := 48) (n := 4) dX8_tableau_48 ?_
          refine sm_cV (pc := 50) (ci := 4) (n := 3) (mc := 0) (ms := 0) rfl m_X4_hasCell (cr_X8_186 (X := X_X8_tableau) (fr := 2) (frc := 1) (pc := 50) (mc := 0) (ms := 0) rfl (by decide) dX8_tableau_50) ?_
          refine sm_if_ne (pc := 53) (tgt := 58) dX8_tableau_53 (by decide) ?_ ?_
          · skip
            exact scX8_tableau_58 P
          · skip
            exact hj56
    · skip
      refine sm_aload (pc := 26) (n := 5) dX8_tableau_26 ?_
      refine gf_X8_164 (pc := 28) rfl dX8_tableau_28 ?_
      exact sm_ireturn (pc := 31) dX8_tableau_31 rfl
  · skip
    refine sm_iconst (pc := 8) dX8_tableau_8 zc_i_m1 ?_
    exact sm_ireturn (pc := 9) dX8_tableau_9 rfl
noncomputable def f_X8_tableau {d : Nat} : List zV → zH d → zP d → Bool := zfn 6 b_X8_tableau
theorem m_X8_tableau {d : Nat} : zMet (d := d) X_X8_tableau yX8_tableau 2 f_X8_tableau := zmet_mk (X := X_X8_tableau) (by decide) rfl rfl s_X8_tableau

abbrev X_X8_gram : zM := (RX8, cX8_gram, 5, (some .int), "gram")
noncomputable def bX8_gram_49 {d : Nat} (P : zP d) : zK d := (xpI 4294966295 (xiret P))
set_option maxRecDepth 100000 in
set_option maxHeartbeats 4000000 in
theorem sbX8_gram_49 {d : Nat} [zGh] (P : zP d) : zSim X_X8_gram 2 P 49 (bX8_gram_49 P) := by
  unfold bX8_gram_49
  refine sm_sipush (pc := 49) dX8_gram_49 zc_s_m1001 ?_
  exact sm_ireturn (pc := 52) dX8_gram_52 rfl
noncomputable def cX8_gram_58 {d : Nat} (P : zP d) : zK d := (xild 2 (xaal (xild 3 (xald1 0 (xiret P)))))
set_option maxRecDepth 100000 in
set_option maxHeartbeats 4000000 in
theorem scX8_gram_58 {d : Nat} [zGh] (P : zP d) : zSim X_X8_gram 2 P 58 (cX8_gram_58 P) := by
  unfold cX8_gram_58
  refine sm_iload_n (pc := 58) (n := 2) dX8_gram_58 rfl ?_
  refine sm_aaload (pc := 59) dX8_gram_59 ?_
  refine sm_iload_n (pc := 60) (n := 3) dX8_gram_60 rfl ?_
  refine sm_iaload (pc := 61) dX8_gram_61 ?_
  exact sm_ireturn (pc := 62) dX8_gram_62 rfl
noncomputable def b_X8_gram {d : Nat} (P : zP d) : zK d := (xald 0 (xild 1 (xcV 24 2 0 0 f_X8_isPartition (xif0 t0eq (xpI 4294966295 (xiret P)) (xald 0 (xgfR 24 6 (xgfR 23 3 (xild 1 (xaal (xast 4 (xild 2 (xjoin (bX8_gram_49 P) (fun j49 => (xif0 t0ge (xild 2 (xald 4 (xgfI 20 5 (xcmp tge j49 (xild 3 (xif0 t0ge (xild 3 (xald 4 (xgfI 20 5 (xcmp tge j49 (xald 4 (xgfR 20 7 (cX8_gram_58 P))))))) j49)))))) j49))))))))))))))
set_option maxRecDepth 100000 in
set_option maxHeartbeats 4000000 in
theorem s_X8_gram {d : Nat} [zGh] (P : zP d) : zSim X_X8_gram 2 P 0 (b_X8_gram P) := by
  unfold b_X8_gram
  refine sm_aload_n (pc := 0) (n := 0) dX8_gram_0 rfl ?_
  refine sm_iload_n (pc := 1) (n := 1) dX8_gram_1 rfl ?_
  refine sm_cV (pc := 2) (ci := 8) (n := 2) (mc := 0) (ms := 0) rfl m_X8_isPartition (cr_X8_126 (X := X_X8_gram) (fr := 2) (frc := 1) (pc := 2) (mc := 0) (ms := 0) rfl (by decide) dX8_gram_2) ?_
  refine sm_if_ne (pc := 5) (tgt := 12) dX8_gram_5 (by decide) ?_ ?_
  · skip
    refine sm_aload_n (pc := 12) (n := 0) dX8_gram_12 rfl ?_
    refine gf_X8_40 (pc := 13) rfl dX8_gram_13 ?_
    refine gf_X8_129 (pc := 16) rfl dX8_gram_16 ?_
    refine sm_iload_n (pc := 19) (n := 1) dX8_gram_19 rfl ?_
    refine sm_aaload (pc := 20) dX8_gram_20 ?_
    refine sm_astore (pc := 21) (n := 4) dX8_gram_21 ?_
    refine sm_iload_n (pc := 23) (n := 2) dX8_gram_23 rfl ?_
    refine sm_join (pc := 24) (pc' := 49) (sbX8_gram_49 P) (fun j49 hj49 => ?_)
    refine sm_if_lt (pc := 24) (tgt := 49) dX8_gram_24 (by decide) ?_ ?_
    · skip
      exact hj49
    · skip
      refine sm_iload_n (pc := 27) (n := 2) dX8_gram_27 rfl ?_
      refine sm_aload (pc := 28) (n := 4) dX8_gram_28 ?_
      refine gf_X8_164 (pc := 30) rfl dX8_gram_30 ?_
      refine sm_icmp_ge (pc := 33) (tgt := 49) dX8_gram_33 (by decide) ?_ ?_
      · skip
        exact hj49
      · skip
        refine sm_iload_n (pc := 36) (n := 3) dX8_gram_36 rfl ?_
        refine sm_if_lt (pc := 37) (tgt := 49) dX8_gram_37 (by decide) ?_ ?_
        · skip
          exact hj49
        · skip
          refine sm_iload_n (pc := 40) (n := 3) dX8_gram_40 rfl ?_
          refine sm_aload (pc := 41) (n := 4) dX8_gram_41 ?_
          refine gf_X8_164 (pc := 43) rfl dX8_gram_43 ?_
          refine sm_icmp_lt (pc := 46) (tgt := 53) dX8_gram_46 (by decide) ?_ ?_
          · skip
            refine sm_aload (pc := 53) (n := 4) dX8_gram_53 ?_
            refine gf_X8_233 (pc := 55) rfl dX8_gram_55 ?_
            exact scX8_gram_58 P
          · skip
            exact hj49
  · skip
    refine sm_sipush (pc := 8) dX8_gram_8 zc_s_m1001 ?_
    exact sm_ireturn (pc := 11) dX8_gram_11 rfl
noncomputable def f_X8_gram {d : Nat} : List zV → zH d → zP d → Bool := zfn 5 b_X8_gram
theorem m_X8_gram {d : Nat} : zMet (d := d) X_X8_gram yX8_gram 2 f_X8_gram := zmet_mk (X := X_X8_gram) (by decide) rfl rfl s_X8_gram

abbrev X_X8_block : zM := (RX8, cX8_block, 4, (some .int), "block")
noncomputable def bX8_block_30 {d : Nat} (P : zP d) : zK d := (xpI 4294967295 (xiret P))
set_option maxRecDepth 100000 in
set_option maxHeartbeats 4000000 in
theorem sbX8_block_30 {d : Nat} [zGh] (P : zP d) : zSim X_X8_block 1 P 30 (bX8_block_30 P) := by
  unfold bX8_block_30
  refine sm_iconst (pc := 30) dX8_block_30 zc_i_m1 ?_
  exact sm_ireturn (pc := 31) dX8_block_31 rfl
noncomputable def bX8_block_122 {d : Nat} (P : zP d) : zK d := (xpI 4294967295 (xiret P))
set_option maxRecDepth 100000 in
set_option maxHeartbeats 4000000 in
theorem sbX8_block_122 {d : Nat} [zGh] (P : zP d) : zSim X_X8_block 1 P 122 (bX8_block_122 P) := by
  unfold bX8_block_122
  refine sm_iconst (pc := 122) dX8_block_122 zc_i_m1 ?_
  exact sm_ireturn (pc := 123) dX8_block_123 rfl
noncomputable def bX8_block_72 {d : Nat} (P : zP d) : zK d := (xald 3 (xgfR 16 5 (xild 1 (xald1 0 (xiret P)))))
set_option maxRecDepth 100000 in
set_option maxHeartbeats 4000000 in
theorem sbX8_block_72 {d : Nat} [zGh] (P : zP d) : zSim X_X8_block 1 P 72 (bX8_block_72 P) := by
  unfold bX8_block_72
  refine sm_aload_n (pc := 72) (n := 3) dX8_block_72 rfl ?_
  refine gf_X8_237 (pc := 73) rfl dX8_block_73 ?_
  refine sm_iload_n (pc := 76) (n := 1) dX8_block_76 rfl ?_
  refine sm_iaload (pc := 77) dX8_block_77 ?_
  exact sm_ireturn (pc := 78) dX8_block_78 rfl
noncomputable def bX8_block_79 {d : Nat} (P : zP d) : zK d := (xald 3 (xgfR 16 6 (xild 1 (xald1 0 (xiret P)))))
set_option maxRecDepth 100000 in
set_option maxHeartbeats 4000000 in
theorem sbX8_block_79 {d : Nat} [zGh] (P : zP d) : zSim X_X8_block 1 P 79 (bX8_block_79 P) := by
  unfold bX8_block_79
  refine sm_aload_n (pc := 79) (n := 3) dX8_block_79 rfl ?_
  refine gf_X8_240 (pc := 80) rfl dX8_block_80 ?_
  refine sm_iload_n (pc := 83) (n := 1) dX8_block_83 rfl ?_
  refine sm_iaload (pc := 84) dX8_block_84 ?_
  exact sm_ireturn (pc := 85) dX8_block_85 rfl
noncomputable def bX8_block_86 {d : Nat} (P : zP d) : zK d := (xald 3 (xgfR 16 0 (xald 3 (xgfR 16 4 (xild 1 (xald1 0 (xald1 0 (xiret P))))))))
set_option maxRecDepth 100000 in
set_option maxHeartbeats 4000000 in
theorem sbX8_block_86 {d : Nat} [zGh] (P : zP d) : zSim X_X8_block 1 P 86 (bX8_block_86 P) := by
  unfold bX8_block_86
  refine sm_aload_n (pc := 86) (n := 3) dX8_block_86 rfl ?_
  refine gf_X8_156 (pc := 87) rfl dX8_block_87 ?_
  refine sm_aload_n (pc := 90) (n := 3) dX8_block_90 rfl ?_
  refine gf_X8_243 (pc := 91) rfl dX8_block_91 ?_
  refine sm_iload_n (pc := 94) (n := 1) dX8_block_94 rfl ?_
  refine sm_iaload (pc := 95) dX8_block_95 ?_
  refine sm_iaload (pc := 96) dX8_block_96 ?_
  exact sm_ireturn (pc := 97) dX8_block_97 rfl
noncomputable def bX8_block_98 {d : Nat} (P : zP d) : zK d := (xald 3 (xgfR 16 7 (xild 1 (xald1 0 (xiret P)))))
set_option maxRecDepth 100000 in
set_option maxHeartbeats 4000000 in
theorem sbX8_block_98 {d : Nat} [zGh] (P : zP d) : zSim X_X8_block 1 P 98 (bX8_block_98 P) := by
  unfold bX8_block_98
  refine sm_aload_n (pc := 98) (n := 3) dX8_block_98 rfl ?_
  refine gf_X8_246 (pc := 99) rfl dX8_block_99 ?_
  refine sm_iload_n (pc := 102) (n := 1) dX8_block_102 rfl ?_
  refine sm_iaload (pc := 103) dX8_block_103 ?_
  exact sm_ireturn (pc := 104) dX8_block_104 rfl
noncomputable def bX8_block_105 {d : Nat} (P : zP d) : zK d := (xald 3 (xgfR 16 4 (xild 1 (xald1 0 (xiret P)))))
set_option maxRecDepth 100000 in
set_option maxHeartbeats 4000000 in
theorem sbX8_block_105 {d : Nat} [zGh] (P : zP d) : zSim X_X8_block 1 P 105 (bX8_block_105 P) := by
  unfold bX8_block_105
  refine sm_aload_n (pc := 105) (n := 3) dX8_block_105 rfl ?_
  refine gf_X8_243 (pc := 106) rfl dX8_block_106 ?_
  refine sm_iload_n (pc := 109) (n := 1) dX8_block_109 rfl ?_
  refine sm_iaload (pc := 110) dX8_block_110 ?_
  exact sm_ireturn (pc := 111) dX8_block_111 rfl
noncomputable def bX8_block_112 {d : Nat} (P : zP d) : zK d := (xald 0 (xgfR 24 7 (xgfR 21 11 (xild 1 (xald1 0 (xiret P))))))
set_option maxRecDepth 100000 in
set_option maxHeartbeats 4000000 in
theorem sbX8_block_112 {d : Nat} [zGh] (P : zP d) : zSim X_X8_block 1 P 112 (bX8_block_112 P) := by
  unfold bX8_block_112
  refine sm_aload_n (pc := 112) (n := 0) dX8_block_112 rfl ?_
  refine gf_X8_47 (pc := 113) rfl dX8_block_113 ?_
  refine gf_X8_249 (pc := 116) rfl dX8_block_116 ?_
  refine sm_iload_n (pc := 119) (n := 1) dX8_block_119 rfl ?_
  refine sm_iaload (pc := 120) dX8_block_120 ?_
  exact sm_ireturn (pc := 121) dX8_block_121 rfl
noncomputable def b_X8_block {d : Nat} (P : zP d) : zK d := (xald 0 (xgfR 24 7 (xgfR 21 10 (xast 3 (xild 2 (xpI 4294967295 (xcmp Nat.beq (xald 3 (xgfI 16 3 (xiret P))) (xild 1 (xjoin (bX8_block_30 P) (fun j30 => (xif0 t0ge (xild 1 (xald 3 (xgfI 16 3 (xcmp tge j30 (xild 2 (xtsw [(bX8_block_72 P), (bX8_block_79 P), (bX8_block_86 P), (bX8_block_98 P), (bX8_block_105 P), (bX8_block_112 P)] (bX8_block_122 P))))))) j30)))))))))))
set_option maxRecDepth 100000 in
set_option maxHeartbeats 4000000 in
theorem s_X8_block {d : Nat} [zGh] (P : zP d) : zSim X_X8_block 1 P 0 (b_X8_block P) := by
  unfold b_X8_block
  refine sm_aload_n (pc := 0) (n := 0) dX8_block_0 rfl ?_
  refine gf_X8_47 (pc := 1) rfl dX8_block_1 ?_
  refine gf_X8_152 (pc := 4) rfl dX8_block_4 ?_
  refine sm_astore_n (pc := 7) (n := 3) dX8_block_7 rfl ?_
  refine sm_iload_n (pc := 8) (n := 2) dX8_block_8 rfl ?_
  refine sm_iconst (pc := 9) dX8_block_9 zc_i_m1 ?_
  refine sm_icmp_ne (pc := 10) (tgt := 18) dX8_block_10 (by decide) ?_ ?_
  · skip
    refine sm_iload_n (pc := 18) (n := 1) dX8_block_18 rfl ?_
    refine sm_join (pc := 19) (pc' := 30) (sbX8_block_30 P) (fun j30 hj30 => ?_)
    refine sm_if_lt (pc := 19) (tgt := 30) dX8_block_19 (by decide) ?_ ?_
    · skip
      exact hj30
    · skip
      refine sm_iload_n (pc := 22) (n := 1) dX8_block_22 rfl ?_
      refine sm_aload_n (pc := 23) (n := 3) dX8_block_23 rfl ?_
      refine gf_X8_236 (pc := 24) rfl dX8_block_24 ?_
      refine sm_icmp_lt (pc := 27) (tgt := 32) dX8_block_27 (by decide) ?_ ?_
      · skip
        refine sm_iload_n (pc := 32) (n := 2) dX8_block_32 rfl ?_
        exact sm_tsw3 (pc := 33) (n := 5) (tdf := 122) [72, 79, 86, 98, 105, 112] rfl (by decide) dX8_block_33 rfl (by decide +kernel) (by decide) (sbX8_block_122 P) ⟨sbX8_block_72 P, sbX8_block_79 P, sbX8_block_86 P, sbX8_block_98 P, sbX8_block_105 P, sbX8_block_112 P, trivial⟩
      · skip
        exact hj30
  · skip
    refine sm_aload_n (pc := 13) (n := 3) dX8_block_13 rfl ?_
    refine gf_X8_236 (pc := 14) rfl dX8_block_14 ?_
    exact sm_ireturn (pc := 17) dX8_block_17 rfl
noncomputable def f_X8_block {d : Nat} : List zV → zH d → zP d → Bool := zfn 4 b_X8_block
theorem m_X8_block {d : Nat} : zMet (d := d) X_X8_block yX8_block 1 f_X8_block := zmet_mk (X := X_X8_block) (by decide) rfl rfl s_X8_block

abbrev X_X8_value : zM := (RX8, cX8_value, 3, (some .long), "value")
noncomputable def bX8_value_29 {d : Nat} (P : zP d) : zK d := (xlret P)
set_option maxRecDepth 100000 in
set_option maxHeartbeats 4000000 in
theorem sbX8_value_29 {d : Nat} [zGh] (P : zP d) : zSim X_X8_value 2 P 29 (bX8_value_29 P) := by
  unfold bX8_value_29
  exact sm_lreturn (pc := 29) dX8_value_29 rfl
noncomputable def bX8_value_26 {d : Nat} (P : zP d) (j29 : zK d) : zK d := (xpL 9223372036854775808 j29)
set_option maxRecDepth 100000 in
set_option maxHeartbeats 4000000 in
theorem sbX8_value_26 {d : Nat} [zGh] (P : zP d) (j29 : zK d) (hj29 : zSim X_X8_value 2 P 29 j29) : zSim X_X8_value 2 P 26 (bX8_value_26 P j29) := by
  unfold bX8_value_26
  refine sm_ldc2 (pc := 26) dX8_value_26 wd_850 zc_cl_m9223372036854775808 ?_
  exact hj29
noncomputable def b_X8_value {d : Nat} (P : zP d) : zK d := (xild 1 (xcS 1 0 0 f_X8_isSlot (xjoin (bX8_value_29 P) (fun j29 => (xjoin (bX8_value_26 P j29) (fun j26 => (xif0 t0eq j26 (xald 0 (xild 2 (xcV 24 2 0 0 f_X8_isPartition (xif0 t0eq j26 (xald 0 (xgfR 24 2 (xild 1 (xaal (xild 2 (xlal j29)))))))))))))))))
set_option maxRecDepth 100000 in
set_option maxHeartbeats 4000000 in
theorem s_X8_value {d : Nat} [zGh] (P : zP d) : zSim X_X8_value 2 P 0 (b_X8_value P) := by
  unfold b_X8_value
  refine sm_iload_n (pc := 0) (n := 1) dX8_value_0 rfl ?_
  refine sm_cS (pc := 1) (n := 1) (mc := 0) (ms := 0) m_X8_isSlot (cr_X8_88 (X := X_X8_value) (fr := 2) (frc := 1) (pc := 1) (mc := 0) (ms := 0) rfl (by decide) dX8_value_1) ?_
  refine sm_join (pc := 4) (pc' := 29) (sbX8_value_29 P) (fun j29 hj29 => ?_)
  refine sm_join (pc := 4) (pc' := 26) (sbX8_value_26 P j29 hj29) (fun j26 hj26 => ?_)
  refine sm_if_eq (pc := 4) (tgt := 26) dX8_value_4 (by decide) ?_ ?_
  · skip
    exact hj26
  · skip
    refine sm_aload_n (pc := 7) (n := 0) dX8_value_7 rfl ?_
    refine sm_iload_n (pc := 8) (n := 2) dX8_value_8 rfl ?_
    refine sm_cV (pc := 9) (ci := 8) (n := 2) (mc := 0) (ms := 0) rfl m_X8_isPartition (cr_X8_126 (X := X_X8_value) (fr := 2) (frc := 1) (pc := 9) (mc := 0) (ms := 0) rfl (by decide) dX8_value_9) ?_
    refine sm_if_eq (pc := 12) (tgt := 26) dX8_value_12 (by decide) ?_ ?_
    · skip
      exact hj26
    · skip
      refine sm_aload_n (pc := 15) (n := 0) dX8_value_15 rfl ?_
      refine gf_X8_23 (pc := 16) rfl dX8_value_16 ?_
      refine sm_iload_n (pc := 19) (n := 1) dX8_value_19 rfl ?_
      refine sm_aaload (pc := 20) dX8_value_20 ?_
      refine sm_iload_n (pc := 21) (n := 2) dX8_value_21 rfl ?_
      refine sm_laload (pc := 22) dX8_value_22 ?_
      refine sm_goto (pc := 23) (tgt := 29) dX8_value_23 (by decide) ?_
      exact hj29
noncomputable def f_X8_value {d : Nat} : List zV → zH d → zP d → Bool := zfn 3 b_X8_value
theorem m_X8_value {d : Nat} : zMet (d := d) X_X8_value yX8_value 2 f_X8_value := zmet_mk (X := X_X8_value) (by decide) rfl rfl s_X8_value

abbrev X_X8_parts : zM := (RX8, cX8_parts, 9, (some .long), "parts")
noncomputable def bX8_parts_24 {d : Nat} (P : zP d) : zK d := (xpL 9223372036854775808 (xlret P))
set_option maxRecDepth 100000 in
set_option maxHeartbeats 4000000 in
theorem sbX8_parts_24 {d : Nat} [zGh] (P : zP d) : zSim X_X8_parts 2 P 24 (bX8_parts_24 P) := by
  unfold bX8_parts_24
  refine sm_ldc2 (pc := 24) dX8_parts_24 wd_850 zc_cl_m9223372036854775808 ?_
  exact sm_lreturn (pc := 27) dX8_parts_27 rfl
noncomputable def bX8_parts_133 {d : Nat} (P : zP d) : zK d := (xlret P)
set_option maxRecDepth 100000 in
set_option maxHeartbeats 4000000 in
theorem sbX8_parts_133 {d : Nat} [zGh] (P : zP d) : zSim X_X8_parts 2 P 133 (bX8_parts_133 P) := by
  unfold bX8_parts_133
  exact sm_lreturn (pc := 133) dX8_parts_133 rfl
noncomputable def cX8_parts_122 {d : Nat} (P : zP d) (j133 : zK d) : zK d := (xald 0 (xgfR 24 6 (xgfI 23 2 (xi2l (xlld 7 (xbinjN zdivj j133))))))
set_option maxRecDepth 100000 in
set_option maxHeartbeats 4000000 in
theorem scX8_parts_122 {d : Nat} [zGh] (P : zP d) (j133 : zK d) (hj133 : zSim X_X8_parts 2 P 133 j133) : zSim X_X8_parts 2 P 122 (cX8_parts_122 P j133) := by
  unfold cX8_parts_122
  refine sm_aload_n (pc := 122) (n := 0) dX8_parts_122 rfl ?_
  refine gf_X8_40 (pc := 123) rfl dX8_parts_123 ?_
  refine gf_X8_266 (pc := 126) rfl dX8_parts_126 ?_
  refine sm_i2l (pc := 129) dX8_parts_129 ?_
  refine sm_lload (pc := 130) (n := 7) dX8_parts_130 ?_
  refine sm_ldiv (pc := 132) dX8_parts_132 ?_
  exact hj133
noncomputable def cX8_parts_114 {d : Nat} (P : zP d) (j133 : zK d) : zK d := (xlld 5 (xlld 7 (xbinjN zdivj j133)))
set_option maxRecDepth 100000 in
set_option maxHeartbeats 4000000 in
theorem scX8_parts_114 {d : Nat} [zGh] (P : zP d) (j133 : zK d) (hj133 : zSim X_X8_parts 2 P 133 j133) : zSim X_X8_parts 2 P 114 (cX8_parts_114 P j133) := by
  unfold cX8_parts_114
  refine sm_lload (pc := 114) (n := 5) dX8_parts_114 ?_
  refine sm_lload (pc := 116) (n := 7) dX8_parts_116 ?_
  refine sm_ldiv (pc := 118) dX8_parts_118 ?_
  refine sm_goto (pc := 119) (tgt := 133) dX8_parts_119 (by decide) ?_
  exact hj133
noncomputable def bX8_parts_65 {d : Nat} (P : zP d) : zK d := (xald 0 (xald 0 (xgfR 24 2 (xild 1 (xaal (xild 2 (xild 4 (xcV 24 4 0 0 f_X8_timesFactorial (xlst 5 (xlld 5 (xabsj (xald 0 (xgfR 24 6 (xgfI 23 2 (xi2l (xcS 2 0 0 f_X8_greatestDivisor (xlst 7 (xlld 7 (xpL 0 (xlcmp (xif0 t0eq (xpL 9223372036854775808 (xlret P)) (xild 3 (xpI 2 (xjoin (bX8_parts_133 P) (fun j133 => (xcmp tge (cX8_parts_122 P j133) (cX8_parts_114 P j133)))))))))))))))))))))))))))
set_option maxRecDepth 100000 in
set_option maxHeartbeats 4000000 in
theorem sbX8_parts_65 {d : Nat} [zGh] (P : zP d) : zSim X_X8_parts 2 P 65 (bX8_parts_65 P) := by
  unfold bX8_parts_65
  refine sm_aload_n (pc := 65) (n := 0) dX8_parts_65 rfl ?_
  refine sm_aload_n (pc := 66) (n := 0) dX8_parts_66 rfl ?_
  refine gf_X8_23 (pc := 67) rfl dX8_parts_67 ?_
  refine sm_iload_n (pc := 70) (n := 1) dX8_parts_70 rfl ?_
  refine sm_aaload (pc := 71) dX8_parts_71 ?_
  refine sm_iload_n (pc := 72) (n := 2) dX8_parts_72 rfl ?_
  refine sm_iload (pc := 73) (n := 4) dX8_parts_73 ?_
  refine sm_cV (pc := 75) (ci := 8) (n := 4) (mc := 0) (ms := 0) rfl m_X8_timesFactorial (cr_X8_256 (X := X_X8_parts) (fr := 2) (frc := 1) (pc := 75) (mc := 0) (ms := 0) rfl (by decide) dX8_parts_75) ?_
  refine sm_lstore (pc := 78) (n := 5) dX8_parts_78 ?_
  refine sm_lload (pc := 80) (n := 5) dX8_parts_80 ?_
  refine sm_mabsj (pc := 82) wd_859 wd_763 wd_6 wd_764 (by decide) dX8_parts_82 ?_
  refine sm_aload_n (pc := 85) (n := 0) dX8_parts_85 rfl ?_
  refine gf_X8_40 (pc := 86) rfl dX8_parts_86 ?_
  refine gf_X8_266 (pc := 89) rfl dX8_parts_89 ?_
  refine sm_i2l (pc := 92) dX8_parts_92 ?_
  refine sm_cS (pc := 93) (n := 2) (mc := 0) (ms := 0) m_X8_greatestDivisor (cr_X8_269 (X := X_X8_parts) (fr := 2) (frc := 1) (pc := 93) (mc := 0) (ms := 0) rfl (by decide) dX8_parts_93) ?_
  refine sm_lstore (pc := 96) (n := 7) dX8_parts_96 ?_
  refine sm_lload (pc := 98) (n := 7) dX8_parts_98 ?_
  refine sm_lconst (pc := 100) dX8_parts_100 zc_l_0 ?_
  refine sm_lcmp (pc := 101) dX8_parts_101 ?_
  refine sm_if_ne (pc := 102) (tgt := 109) dX8_parts_102 (by decide) ?_ ?_
  · skip
    refine sm_iload_n (pc := 109) (n := 3) dX8_parts_109 rfl ?_
    refine sm_iconst (pc := 110) dX8_parts_110 zc_i_2 ?_
    refine sm_join (pc := 111) (pc' := 133) (sbX8_parts_133 P) (fun j133 hj133 => ?_)
    refine sm_icmp_ge (pc := 111) (tgt := 122) dX8_parts_111 (by decide) ?_ ?_
    · skip
      exact scX8_parts_122 P j133 hj133
    · skip
      exact scX8_parts_114 P j133 hj133
  · skip
    refine sm_ldc2 (pc := 105) dX8_parts_105 wd_850 zc_cl_m9223372036854775808 ?_
    exact sm_lreturn (pc := 108) dX8_parts_108 rfl
noncomputable def bX8_parts_43 {d : Nat} (P : zP d) : zK d := (xist 4 (xild 4 (xjoin (bX8_parts_65 P) (fun j65 => (xif0 t0eq j65 (xald 0 (xgfR 24 7 (xild 2 (xcV 21 2 0 0 f_X5_isRegular (xif0 t0eq (xpL 9223372036854775808 (xlret P)) j65))))))))))
set_option maxRecDepth 100000 in
set_option maxHeartbeats 4000000 in
theorem sbX8_parts_43 {d : Nat} [zGh] (P : zP d) : zSim X_X8_parts 2 P 43 (bX8_parts_43 P) := by
  unfold bX8_parts_43
  refine sm_istore (pc := 43) (n := 4) dX8_parts_43 ?_
  refine sm_iload (pc := 45) (n := 4) dX8_parts_45 ?_
  refine sm_join (pc := 47) (pc' := 65) (sbX8_parts_65 P) (fun j65 hj65 => ?_)
  refine sm_if_eq (pc := 47) (tgt := 65) dX8_parts_47 (by decide) ?_ ?_
  · skip
    exact hj65
  · skip
    refine sm_aload_n (pc := 50) (n := 0) dX8_parts_50 rfl ?_
    refine gf_X8_47 (pc := 51) rfl dX8_parts_51 ?_
    refine sm_iload_n (pc := 54) (n := 2) dX8_parts_54 rfl ?_
    refine sm_cV (pc := 55) (ci := 5) (n := 2) (mc := 0) (ms := 0) rfl m_X5_isRegular (cr_X8_145 (X := X_X8_parts) (fr := 2) (frc := 1) (pc := 55) (mc := 0) (ms := 0) rfl (by decide) dX8_parts_55) ?_
    refine sm_if_ne (pc := 58) (tgt := 65) dX8_parts_58 (by decide) ?_ ?_
    · skip
      exact hj65
    · skip
      refine sm_ldc2 (pc := 61) dX8_parts_61 wd_850 zc_cl_m9223372036854775808 ?_
      exact sm_lreturn (pc := 64) dX8_parts_64 rfl
noncomputable def bX8_parts_38 {d : Nat} (P : zP d) (j43 : zK d) : zK d := (xpI 1 j43)
set_option maxRecDepth 100000 in
set_option maxHeartbeats 4000000 in
theorem sbX8_parts_38 {d : Nat} [zGh] (P : zP d) (j43 : zK d) (hj43 : zSim X_X8_parts 2 P 43 j43) : zSim X_X8_parts 2 P 38 (bX8_parts_38 P j43) := by
  unfold bX8_parts_38
  refine sm_iconst (pc := 38) dX8_parts_38 zc_i_1 ?_
  refine sm_goto (pc := 39) (tgt := 43) dX8_parts_39 (by decide) ?_
  exact hj43
noncomputable def b_X8_parts {d : Nat} (P : zP d) : zK d := (xild 1 (xcS 1 0 0 f_X8_isSlot (xjoin (bX8_parts_24 P) (fun j24 => (xif0 t0eq j24 (xald 0 (xild 2 (xcV 24 2 0 0 f_X8_isPartition (xif0 t0eq j24 (xild 3 (xif0 t0ge (xild 3 (xpI 3 (xcmp tle (xild 3 (xpI 1 (xjoin (bX8_parts_43 P) (fun j43 => (xjoin (bX8_parts_38 P j43) (fun j38 => (xcmp Nat.beq j38 (xild 3 (xpI 3 (xcmp Nat.beq j38 (xpI 0 j43))))))))))) j24))) j24)))))))))))
set_option maxRecDepth 100000 in
set_option maxHeartbeats 4000000 in
theorem s_X8_parts {d : Nat} [zGh] (P : zP d) : zSim X_X8_parts 2 P 0 (b_X8_parts P) := by
  unfold b_X8_parts
  refine sm_iload_n (pc := 0) (n := 1) dX8_parts_0 rfl ?_
  refine sm_cS (pc := 1) (n := 1) (mc := 0) (ms := 0) m_X8_isSlot (cr_X8_88 (X := X_X8_parts) (fr := 2) (frc := 1) (pc := 1) (mc := 0) (ms := 0) rfl (by decide) dX8_parts_1) ?_
  refine sm_join (pc := 4) (pc' := 24) (sbX8_parts_24 P) (fun j24 hj24 => ?_)
  refine sm_if_eq (pc := 4) (tgt := 24) dX8_parts_4 (by decide) ?_ ?_
  · skip
    exact hj24
  · skip
    refine sm_aload_n (pc := 7) (n := 0) dX8_parts_7 rfl ?_
    refine sm_iload_n (pc := 8) (n := 2) dX8_parts_8 rfl ?_
    refine sm_cV (pc := 9) (ci := 8) (n := 2) (mc := 0) (ms := 0) rfl m_X8_isPartition (cr_X8_126 (X := X_X8_parts) (fr := 2) (frc := 1) (pc := 9) (mc := 0) (ms := 0) rfl (by decide) dX8_parts_9) ?_
    refine sm_if_eq (pc := 12) (tgt := 24) dX8_parts_12 (by decide) ?_ ?_
    · skip
      exact hj24
    · skip
      refine sm_iload_n (pc := 15) (n := 3) dX8_parts_15 rfl ?_
      refine sm_if_lt (pc := 16) (tgt := 24) dX8_parts_16 (by decide) ?_ ?_
      · skip
        exact hj24
      · skip
        refine sm_iload_n (pc := 19) (n := 3) dX8_parts_19 rfl ?_
        refine sm_iconst (pc := 20) dX8_parts_20 zc_i_3 ?_
        refine sm_icmp_le (pc := 21) (tgt := 28) dX8_parts_21 (by decide) ?_ ?_
        · skip
          refine sm_iload_n (pc := 28) (n := 3) dX8_parts_28 rfl ?_
          refine sm_iconst (pc := 29) dX8_parts_29 zc_i_1 ?_
          refine sm_join (pc := 30) (pc' := 43) (sbX8_parts_43 P) (fun j43 hj43 => ?_)
          refine sm_join (pc := 30) (pc' := 38) (sbX8_parts_38 P j43 hj43) (fun j38 hj38 => ?_)
          refine sm_icmp_eq (pc := 30) (tgt := 38) dX8_parts_30 (by decide) ?_ ?_
          · skip
            exact hj38
          · skip
            refine sm_iload_n (pc := 33) (n := 3) dX8_parts_33 rfl ?_
            refine sm_iconst (pc := 34) dX8_parts_34 zc_i_3 ?_
            refine sm_icmp_ne (pc := 35) (tgt := 42) dX8_parts_35 (by decide) ?_ ?_
            · skip
              refine sm_iconst (pc := 42) dX8_parts_42 zc_i_0 ?_
              exact hj43
            · skip
              exact hj38
        · skip
          exact hj24
noncomputable def f_X8_parts {d : Nat} : List zV → zH d → zP d → Bool := zfn 9 b_X8_parts
theorem m_X8_parts {d : Nat} : zMet (d := d) X_X8_parts yX8_parts 2 f_X8_parts := zmet_mk (X := X_X8_parts) (by decide) rfl rfl s_X8_parts

abbrev X_X8_inner : zM := (RX8, cX8_inner, 6, (some .long), "inner")
noncomputable def bX8_inner_14 {d : Nat} (P : zP d) : zK d := (xpL 18446744073709551615 (xlret P))
set_option maxRecDepth 100000 in
set_option maxHeartbeats 4000000 in
theorem sbX8_inner_14 {d : Nat} [zGh] (P : zP d) : zSim X_X8_inner 2 P 14 (bX8_inner_14 P) := by
  unfold bX8_inner_14
  refine sm_ldc2 (pc := 14) dX8_inner_14 wd_865 zc_cl_m1 ?_
  exact sm_lreturn (pc := 17) dX8_inner_17 rfl
noncomputable def cX8_inner_65 {d : Nat} (P : zP d) (r23 : zK d) : zK d := (xlal (xbinj zmulj (xbinj zaddj (xlst 3 (xinc 5 1 r23)))))
set_option maxRecDepth 100000 in
set_option maxHeartbeats 4000000 in
theorem scX8_inner_65 {d : Nat} [zGh] (P : zP d) (r23 : zK d) (hr23 : zSim X_X8_inner 2 P 23 r23) : zSim X_X8_inner 2 P 65 (cX8_inner_65 P r23) := by
  unfold cX8_inner_65
  refine sm_laload (pc := 65) dX8_inner_65 ?_
  refine sm_lmul (pc := 66) dX8_inner_66 ?_
  refine sm_ladd (pc := 67) dX8_inner_67 ?_
  refine sm_lstore_n (pc := 68) (n := 3) dX8_inner_68 rfl ?_
  refine sm_iinc (pc := 69) (n := 5) dX8_inner_69 zc_i_1 ?_
  refine sm_goto (pc := 72) (tgt := 23) dX8_inner_72 (by decide) ?_
  exact hr23
noncomputable def lX8_inner_23 {d : Nat} (P : zP d) (r23 : zK d) : zK d := (xild 5 (xald 0 (xgfR 24 6 (xgfI 23 1 (xcmp tge (xlld 3 (xlret P)) (xlld 3 (xald 0 (xgfR 24 6 (xgfR 23 5 (xild 5 (xald1 0 (xi2l (xald 0 (xgfR 24 2 (xild 1 (xaal (xild 5 (xlal (xbinj zmulj (xald 0 (xgfR 24 2 (xild 2 (xaal (xild 5 (cX8_inner_65 P r23)))))))))))))))))))))))))
set_option maxRecDepth 100000 in
set_option maxHeartbeats 4000000 in
theorem slX8_inner_23 {d : Nat} [zGh] (P : zP d) (r23 : zK d) (hr23 : zSim X_X8_inner 2 P 23 r23) : zSim X_X8_inner 2 P 23 (lX8_inner_23 P r23) := by
  unfold lX8_inner_23
  refine sm_iload (pc := 23) (n := 5) dX8_inner_23 ?_
  refine sm_aload_n (pc := 25) (n := 0) dX8_inner_25 rfl ?_
  refine gf_X8_40 (pc := 26) rfl dX8_inner_26 ?_
  refine gf_X8_74 (pc := 29) rfl dX8_inner_29 ?_
  refine sm_icmp_ge (pc := 32) (tgt := 75) dX8_inner_32 (by decide) ?_ ?_
  · skip
    refine sm_lload_n (pc := 75) (n := 3) dX8_inner_75 rfl ?_
    exact sm_lreturn (pc := 76) dX8_inner_76 rfl
  · skip
    refine sm_lload_n (pc := 35) (n := 3) dX8_inner_35 rfl ?_
    refine sm_aload_n (pc := 36) (n := 0) dX8_inner_36 rfl ?_
    refine gf_X8_40 (pc := 37) rfl dX8_inner_37 ?_
    refine gf_X8_193 (pc := 40) rfl dX8_inner_40 ?_
    refine sm_iload (pc := 43) (n := 5) dX8_inner_43 ?_
    refine sm_iaload (pc := 45) dX8_inner_45 ?_
    refine sm_i2l (pc := 46) dX8_inner_46 ?_
    refine sm_aload_n (pc := 47) (n := 0) dX8_inner_47 rfl ?_
    refine gf_X8_23 (pc := 48) rfl dX8_inner_48 ?_
    refine sm_iload_n (pc := 51) (n := 1) dX8_inner_51 rfl ?_
    refine sm_aaload (pc := 52) dX8_inner_52 ?_
    refine sm_iload (pc := 53) (n := 5) dX8_inner_53 ?_
    refine sm_laload (pc := 55) dX8_inner_55 ?_
    refine sm_lmul (pc := 56) dX8_inner_56 ?_
    refine sm_aload_n (pc := 57) (n := 0) dX8_inner_57 rfl ?_
    refine gf_X8_23 (pc := 58) rfl dX8_inner_58 ?_
    refine sm_iload_n (pc := 61) (n := 2) dX8_inner_61 rfl ?_
    refine sm_aaload (pc := 62) dX8_inner_62 ?_
    refine sm_iload (pc := 63) (n := 5) dX8_inner_63 ?_
    exact scX8_inner_65 P r23 hr23
noncomputable def b_X8_inner {d : Nat} (P : zP d) : zK d := (xild 1 (xcS 1 0 0 f_X8_isSlot (xjoin (bX8_inner_14 P) (fun j14 => (xif0 t0eq j14 (xild 2 (xcS 1 0 0 f_X8_isSlot (xif0 t0eq j14 (xpL 0 (xlst 3 (xpI 0 (xist 5 (xloop (fun r23 => (lX8_inner_23 P r23)) 100000)))))))))))))
set_option maxRecDepth 100000 in
set_option maxHeartbeats 4000000 in
theorem s_X8_inner {d : Nat} [zGh] (P : zP d) : zSim X_X8_inner 2 P 0 (b_X8_inner P) := by
  unfold b_X8_inner
  refine sm_iload_n (pc := 0) (n := 1) dX8_inner_0 rfl ?_
  refine sm_cS (pc := 1) (n := 1) (mc := 0) (ms := 0) m_X8_isSlot (cr_X8_88 (X := X_X8_inner) (fr := 2) (frc := 1) (pc := 1) (mc := 0) (ms := 0) rfl (by decide) dX8_inner_1) ?_
  refine sm_join (pc := 4) (pc' := 14) (sbX8_inner_14 P) (fun j14 hj14 => ?_)
  refine sm_if_eq (pc := 4) (tgt := 14) dX8_inner_4 (by decide) ?_ ?_
  · skip
    exact hj14
  · skip
    refine sm_iload_n (pc := 7) (n := 2) dX8_inner_7 rfl ?_
    refine sm_cS (pc := 8) (n := 1) (mc := 0) (ms := 0) m_X8_isSlot (cr_X8_88 (X := X_X8_inner) (fr := 2) (frc := 1) (pc := 8) (mc := 0) (ms := 0) rfl (by decide) dX8_inner_8) ?_
    refine sm_if_ne (pc := 11) (tgt := 18) dX8_inner_11 (by decide) ?_ ?_
    · skip
      refine sm_lconst (pc := 18) dX8_inner_18 zc_l_0 ?_
      refine sm_lstore_n (pc := 19) (n := 3) dX8_inner_19 rfl ?_
      refine sm_iconst (pc := 20) dX8_inner_20 zc_i_0 ?_
      refine sm_istore (pc := 21) (n := 5) dX8_inner_21 ?_
      exact sm_loop (fun r23 hr23 => slX8_inner_23 P r23 hr23) _
    · skip
      exact hj14
noncomputable def f_X8_inner {d : Nat} : List zV → zH d → zP d → Bool := zfn 6 b_X8_inner
theorem m_X8_inner {d : Nat} : zMet (d := d) X_X8_inner yX8_inner 2 f_X8_inner := zmet_mk (X := X_X8_inner) (by decide) rfl rfl s_X8_inner

abbrev X_X8_kind : zM := (RX8, cX8_kind, 4, (some .int), "kind")
noncomputable def bX8_kind_105 {d : Nat} (P : zP d) : zK d := (xpI 4294967295 (xiret P))
set_option maxRecDepth 100000 in
set_option maxHeartbeats 4000000 in
theorem sbX8_kind_105 {d : Nat} [zGh] (P : zP d) : zSim X_X8_kind 3 P 105 (bX8_kind_105 P) := by
  unfold bX8_kind_105
  refine sm_iconst (pc := 105) dX8_kind_105 zc_i_m1 ?_
  exact sm_ireturn (pc := 106) dX8_kind_106 rfl
noncomputable def bX8_kind_52 {d : Nat} (P : zP d) : zK d := (xald 0 (xald 3 (xcV 24 2 0 0 f_X8_isZeroOffRegular (xcS 1 0 0 f_X8_bit (xiret P)))))
set_option maxRecDepth 100000 in
set_option maxHeartbeats 4000000 in
theorem sbX8_kind_52 {d : Nat} [zGh] (P : zP d) : zSim X_X8_kind 3 P 52 (bX8_kind_52 P) := by
  unfold bX8_kind_52
  refine sm_aload_n (pc := 52) (n := 0) dX8_kind_52 rfl ?_
  refine sm_aload_n (pc := 53) (n := 3) dX8_kind_53 rfl ?_
  refine sm_cV (pc := 54) (ci := 8) (n := 2) (mc := 0) (ms := 0) rfl m_X8_isZeroOffRegular (cr_X8_275 (X := X_X8_kind) (fr := 3) (frc := 1) (pc := 54) (mc := 0) (ms := 0) rfl (by decide) dX8_kind_54) ?_
  refine sm_cS (pc := 57) (n := 1) (mc := 0) (ms := 0) m_X8_bit (cr_X8_148 (X := X_X8_kind) (fr := 3) (frc := 1) (pc := 57) (mc := 0) (ms := 0) rfl (by decide) dX8_kind_57) ?_
  exact sm_ireturn (pc := 60) dX8_kind_60 rfl
noncomputable def bX8_kind_61 {d : Nat} (P : zP d) : zK d := (xald 0 (xald 3 (xpI 0 (xpI 0 (xcV 24 4 0 0 f_X8_isWhole (xcS 1 0 0 f_X8_bit (xiret P)))))))
set_option maxRecDepth 100000 in
set_option maxHeartbeats 4000000 in
theorem sbX8_kind_61 {d : Nat} [zGh] (P : zP d) : zSim X_X8_kind 3 P 61 (bX8_kind_61 P) := by
  unfold bX8_kind_61
  refine sm_aload_n (pc := 61) (n := 0) dX8_kind_61 rfl ?_
  refine sm_aload_n (pc := 62) (n := 3) dX8_kind_62 rfl ?_
  refine sm_iconst (pc := 63) dX8_kind_63 zc_i_0 ?_
  refine sm_iconst (pc := 64) dX8_kind_64 zc_i_0 ?_
  refine sm_cV (pc := 65) (ci := 8) (n := 4) (mc := 0) (ms := 0) rfl m_X8_isWhole (cr_X8_279 (X := X_X8_kind) (fr := 3) (frc := 2) (pc := 65) (mc := 0) (ms := 0) rfl (by decide) dX8_kind_65) ?_
  refine sm_cS (pc := 68) (n := 1) (mc := 0) (ms := 0) m_X8_bit (cr_X8_148 (X := X_X8_kind) (fr := 3) (frc := 1) (pc := 68) (mc := 0) (ms := 0) rfl (by decide) dX8_kind_68) ?_
  exact sm_ireturn (pc := 71) dX8_kind_71 rfl
noncomputable def bX8_kind_72 {d : Nat} (P : zP d) : zK d := (xald 0 (xald 3 (xpI 0 (xpI 1 (xcV 24 4 0 0 f_X8_isWhole (xcS 1 0 0 f_X8_bit (xiret P)))))))
set_option maxRecDepth 100000 in
set_option maxHeartbeats 4000000 in
theorem sbX8_kind_72 {d : Nat} [zGh] (P : zP d) : zSim X_X8_kind 3 P 72 (bX8_kind_72 P) := by
  unfold bX8_kind_72
  refine sm_aload_n (pc := 72) (n := 0) dX8_kind_72 rfl ?_
  refine sm_aload_n (pc := 73) (n := 3) dX8_kind_73 rfl ?_
  refine sm_iconst (pc := 74) dX8_kind_74 zc_i_0 ?_
  refine sm_iconst (pc := 75) dX8_kind_75 zc_i_1 ?_
  refine sm_cV (pc := 76) (ci := 8) (n := 4) (mc := 0) (ms := 0) rfl m_X8_isWhole (cr_X8_279 (X := X_X8_kind) (fr := 3) (frc := 2) (pc := 76) (mc := 0) (ms := 0) rfl (by decide) dX8_kind_76) ?_
  refine sm_cS (pc := 79) (n := 1) (mc := 0) (ms := 0) m_X8_bit (cr_X8_148 (X := X_X8_kind) (fr := 3) (frc := 1) (pc := 79) (mc := 0) (ms := 0) rfl (by decide) dX8_kind_79) ?_
  exact sm_ireturn (pc := 82) dX8_kind_82 rfl
noncomputable def bX8_kind_83 {d : Nat} (P : zP d) : zK d := (xald 0 (xald 3 (xpI 1 (xpI 0 (xcV 24 4 0 0 f_X8_isWhole (xcS 1 0 0 f_X8_bit (xiret P)))))))
set_option maxRecDepth 100000 in
set_option maxHeartbeats 4000000 in
theorem sbX8_kind_83 {d : Nat} [zGh] (P : zP d) : zSim X_X8_kind 3 P 83 (bX8_kind_83 P) := by
  unfold bX8_kind_83
  refine sm_aload_n (pc := 83) (n := 0) dX8_kind_83 rfl ?_
  refine sm_aload_n (pc := 84) (n := 3) dX8_kind_84 rfl ?_
  refine sm_iconst (pc := 85) dX8_kind_85 zc_i_1 ?_
  refine sm_iconst (pc := 86) dX8_kind_86 zc_i_0 ?_
  refine sm_cV (pc := 87) (ci := 8) (n := 4) (mc := 0) (ms := 0) rfl m_X8_isWhole (cr_X8_279 (X := X_X8_kind) (fr := 3) (frc := 2) (pc := 87) (mc := 0) (ms := 0) rfl (by decide) dX8_kind_87) ?_
  refine sm_cS (pc := 90) (n := 1) (mc := 0) (ms := 0) m_X8_bit (cr_X8_148 (X := X_X8_kind) (fr := 3) (frc := 1) (pc := 90) (mc := 0) (ms := 0) rfl (by decide) dX8_kind_90) ?_
  exact sm_ireturn (pc := 93) dX8_kind_93 rfl
noncomputable def bX8_kind_94 {d : Nat} (P : zP d) : zK d := (xald 0 (xald 3 (xpI 1 (xpI 1 (xcV 24 4 0 0 f_X8_isWhole (xcS 1 0 0 f_X8_bit (xiret P)))))))
set_option maxRecDepth 100000 in
set_option maxHeartbeats 4000000 in
theorem sbX8_kind_94 {d : Nat} [zGh] (P : zP d) : zSim X_X8_kind 3 P 94 (bX8_kind_94 P) := by
  unfold bX8_kind_94
  refine sm_aload_n (pc := 94) (n := 0) dX8_kind_94 rfl ?_
  refine sm_aload_n (pc := 95) (n := 3) dX8_kind_95 rfl ?_
  refine sm_iconst (pc := 96) dX8_kind_96 zc_i_1 ?_
  refine sm_iconst (pc := 97) dX8_kind_97 zc_i_1 ?_
  refine sm_cV (pc := 98) (ci := 8) (n := 4) (mc := 0) (ms := 0) rfl m_X8_isWhole (cr_X8_279 (X := X_X8_kind) (fr := 3) (frc := 2) (pc := 98) (mc := 0) (ms := 0) rfl (by decide) dX8_kind_98) ?_
  refine sm_cS (pc := 101) (n := 1) (mc := 0) (ms := 0) m_X8_bit (cr_X8_148 (X := X_X8_kind) (fr := 3) (frc := 1) (pc := 101) (mc := 0) (ms := 0) rfl (by decide) dX8_kind_101) ?_
  exact sm_ireturn (pc := 104) dX8_kind_104 rfl
noncomputable def b_X8_kind {d : Nat} (P : zP d) : zK d := (xild 1 (xcS 1 0 0 f_X8_isSlot (xif0 t0eq (xpI 4294967295 (xiret P)) (xald 0 (xgfR 24 2 (xild 1 (xaal (xast 3 (xild 2 (xtsw [(bX8_kind_52 P), (bX8_kind_61 P), (bX8_kind_72 P), (bX8_kind_83 P), (bX8_kind_94 P)] (bX8_kind_105 P)))))))))))
set_option maxRecDepth 100000 in
set_option maxHeartbeats 4000000 in
theorem s_X8_kind {d : Nat} [zGh] (P : zP d) : zSim X_X8_kind 3 P 0 (b_X8_kind P) := by
  unfold b_X8_kind
  refine sm_iload_n (pc := 0) (n := 1) dX8_kind_0 rfl ?_
  refine sm_cS (pc := 1) (n := 1) (mc := 0) (ms := 0) m_X8_isSlot (cr_X8_88 (X := X_X8_kind) (fr := 3) (frc := 1) (pc := 1) (mc := 0) (ms := 0) rfl (by decide) dX8_kind_1) ?_
  refine sm_if_ne (pc := 4) (tgt := 9) dX8_kind_4 (by decide) ?_ ?_
  · skip
    refine sm_aload_n (pc := 9) (n := 0) dX8_kind_9 rfl ?_
    refine gf_X8_23 (pc := 10) rfl dX8_kind_10 ?_
    refine sm_iload_n (pc := 13) (n := 1) dX8_kind_13 rfl ?_
    refine sm_aaload (pc := 14) dX8_kind_14 ?_
    refine sm_astore_n (pc := 15) (n := 3) dX8_kind_15 rfl ?_
    refine sm_iload_n (pc := 16) (n := 2) dX8_kind_16 rfl ?_
    exact sm_tsw3 (pc := 17) (n := 4) (tdf := 105) [52, 61, 72, 83, 94] rfl (by decide) dX8_kind_17 rfl (by decide +kernel) (by decide) (sbX8_kind_105 P) ⟨sbX8_kind_52 P, sbX8_kind_61 P, sbX8_kind_72 P, sbX8_kind_83 P, sbX8_kind_94 P, trivial⟩
  · skip
    refine sm_iconst (pc := 7) dX8_kind_7 zc_i_m1 ?_
    exact sm_ireturn (pc := 8) dX8_kind_8 rfl
noncomputable def f_X8_kind {d : Nat} : List zV → zH d → zP d → Bool := zfn 4 b_X8_kind
theorem m_X8_kind {d : Nat} : zMet (d := d) X_X8_kind yX8_kind 3 f_X8_kind := zmet_mk (X := X_X8_kind) (by decide) rfl rfl s_X8_kind

abbrev X_X8_cut : zM := (RX8, cX8_cut, 7, (some .int), "cut")
noncomputable def bX8_cut_32 {d : Nat} (P : zP d) : zK d := (xpI 4294967295 (xiret P))
set_option maxRecDepth 100000 in
set_option maxHeartbeats 4000000 in
theorem sbX8_cut_32 {d : Nat} [zGh] (P : zP d) : zSim X_X8_cut 2 P 32 (bX8_cut_32 P) := by
  unfold bX8_cut_32
  refine sm_iconst (pc := 32) dX8_cut_32 zc_i_m1 ?_
  exact sm_ireturn (pc := 33) dX8_cut_33 rfl
noncomputable def bX8_cut_128 {d : Nat} (P : zP d) (r45 : zK d) : zK d := (xinc 4 1 r45)
set_option maxRecDepth 100000 in
set_option maxHeartbeats 4000000 in
theorem sbX8_cut_128 {d : Nat} [zGh] (P : zP d) (r45 : zK d) (hr45 : zSim X_X8_cut 2 P 45 r45) : zSim X_X8_cut 2 P 128 (bX8_cut_128 P r45) := by
  unfold bX8_cut_128
  refine sm_iinc (pc := 128) (n := 4) dX8_cut_128 zc_i_1 ?_
  refine sm_goto (pc := 131) (tgt := 45) dX8_cut_131 (by decide) ?_
  exact hr45
noncomputable def cX8_cut_95 {d : Nat} (P : zP d) (j128 : zK d) : zK d := (xcV 24 2 0 0 f_X8_isWholeTimes (xif0 t0eq (xpI 4294967295 (xiret P)) (xald 0 (xlld 5 (xald 0 (xgfR 24 6 (xgfI 23 2 (xi2l (xbinjN zdivj (xald 0 (xgfR 24 6 (xgfR 23 12 (xild 4 (xaal (xcV 24 3 0 0 f_X8_addTimes j128)))))))))))))))
set_option maxRecDepth 100000 in
set_option maxHeartbeats 4000000 in
theorem scX8_cut_95 {d : Nat} [zGh] (P : zP d) (j128 : zK d) (hj128 : zSim X_X8_cut 2 P 128 j128) : zSim X_X8_cut 2 P 95 (cX8_cut_95 P j128) := by
  unfold cX8_cut_95
  refine sm_cV (pc := 95) (ci := 8) (n := 2) (mc := 0) (ms := 0) rfl m_X8_isWholeTimes (cr_X8_283 (X := X_X8_cut) (fr := 2) (frc := 1) (pc := 95) (mc := 0) (ms := 0) rfl (by decide) dX8_cut_95) ?_
  refine sm_if_ne (pc := 98) (tgt := 103) dX8_cut_98 (by decide) ?_ ?_
  · skip
    refine sm_aload_n (pc := 103) (n := 0) dX8_cut_103 rfl ?_
    refine sm_lload (pc := 104) (n := 5) dX8_cut_104 ?_
    refine sm_aload_n (pc := 106) (n := 0) dX8_cut_106 rfl ?_
    refine gf_X8_40 (pc := 107) rfl dX8_cut_107 ?_
    refine gf_X8_266 (pc := 110) rfl dX8_cut_110 ?_
    refine sm_i2l (pc := 113) dX8_cut_113 ?_
    refine sm_ldiv (pc := 114) dX8_cut_114 ?_
    refine sm_aload_n (pc := 115) (n := 0) dX8_cut_115 rfl ?_
    refine gf_X8_40 (pc := 116) rfl dX8_cut_116 ?_
    refine gf_X8_209 (pc := 119) rfl dX8_cut_119 ?_
    refine sm_iload (pc := 122) (n := 4) dX8_cut_122 ?_
    refine sm_aaload (pc := 124) dX8_cut_124 ?_
    refine sm_cV (pc := 125) (ci := 8) (n := 3) (mc := 0) (ms := 0) rfl m_X8_addTimes (cr_X8_287 (X := X_X8_cut) (fr := 2) (frc := 1) (pc := 125) (mc := 0) (ms := 0) rfl (by decide) dX8_cut_125) ?_
    exact hj128
  · skip
    refine sm_iconst (pc := 101) dX8_cut_101 zc_i_m1 ?_
    exact sm_ireturn (pc := 102) dX8_cut_102 rfl
noncomputable def lX8_cut_45 {d : Nat} (P : zP d) (r45 : zK d) : zK d := (xild 4 (xald 0 (xgfR 24 6 (xgfI 23 1 (xcmp tge (xald 0 (xgfR 24 3 (xpI 0 (xald 0 (xgfR 24 2 (xild 3 (xaal (xpI 0 (xpI 11 (xcpy 2 72 (xpI 0 (xiret P)))))))))))) (xald 0 (xgfR 24 7 (xgfR 21 10 (xgfR 16 2 (xild 4 (xald1 0 (xild 2 (xjoin (bX8_cut_128 P r45) (fun j128 => (xcmp Nat.beq (xald 0 (xald 0 (xgfR 24 2 (xild 1 (xaal (xild 4 (xpI 0 (xcV 24 4 0 0 f_X8_timesFactorial (xlst 5 (xald 0 (xlld 5 (cX8_cut_95 P j128)))))))))))) j128)))))))))))))))
set_option maxRecDepth 100000 in
set_option maxHeartbeats 4000000 in
theorem slX8_cut_45 {d : Nat} [zGh] (P : zP d) (r45 : zK d) (hr45 : zSim X_X8_cut 2 P 45 r45) : zSim X_X8_cut 2 P 45 (lX8_cut_45 P r45) := by
  unfold lX8_cut_45
  refine sm_iload (pc := 45) (n := 4) dX8_cut_45 ?_
  refine sm_aload_n (pc := 47) (n := 0) dX8_cut_47 rfl ?_
  refine gf_X8_40 (pc := 48) rfl dX8_cut_48 ?_
  refine gf_X8_74 (pc := 51) rfl dX8_cut_51 ?_
  refine sm_icmp_ge (pc := 54) (tgt := 134) dX8_cut_54 (by decide) ?_ ?_
  · skip
    refine sm_aload_n (pc := 134) (n := 0) dX8_cut_134 rfl ?_
    refine gf_X8_26 (pc := 135) rfl dX8_cut_135 ?_
    refine sm_iconst (pc := 138) dX8_cut_138 zc_i_0 ?_
    refine sm_aload_n (pc := 139) (n := 0) dX8_cut_139 rfl ?_
    refine gf_X8_23 (pc := 140) rfl dX8_cut_140 ?_
    refine sm_iload_n (pc := 143) (n := 3) dX8_cut_143 rfl ?_
    refine sm_aaload (pc := 144) dX8_cut_144 ?_
    refine sm_iconst (pc := 145) dX8_cut_145 zc_i_0 ?_
    refine sm_bipush (pc := 146) dX8_cut_146 zc_b_11 ?_
    refine sm_copyJ (pc := 148) wd_771 wd_80 wd_79 wd_7 (by decide) dX8_cut_148 ?_
    refine sm_iconst (pc := 151) dX8_cut_151 zc_i_0 ?_
    exact sm_ireturn (pc := 152) dX8_cut_152 rfl
  · skip
    refine sm_aload_n (pc := 57) (n := 0) dX8_cut_57 rfl ?_
    refine gf_X8_47 (pc := 58) rfl dX8_cut_58 ?_
    refine gf_X8_152 (pc := 61) rfl dX8_cut_61 ?_
    refine gf_X8_161 (pc := 64) rfl dX8_cut_64 ?_
    refine sm_iload (pc := 67) (n := 4) dX8_cut_67 ?_
    refine sm_iaload (pc := 69) dX8_cut_69 ?_
    refine sm_iload_n (pc := 70) (n := 2) dX8_cut_70 rfl ?_
    refine sm_join (pc := 71) (pc' := 128) (sbX8_cut_128 P r45 hr45) (fun j128 hj128 => ?_)
    refine sm_icmp_eq (pc := 71) (tgt := 77) dX8_cut_71 (by decide) ?_ ?_
    · skip
      refine sm_aload_n (pc := 77) (n := 0) dX8_cut_77 rfl ?_
      refine sm_aload_n (pc := 78) (n := 0) dX8_cut_78 rfl ?_
      refine gf_X8_23 (pc := 79) rfl dX8_cut_79 ?_
      refine sm_iload_n (pc := 82) (n := 1) dX8_cut_82 rfl ?_
      refine sm_aaload (pc := 83) dX8_cut_83 ?_
      refine sm_iload (pc := 84) (n := 4) dX8_cut_84 ?_
      refine sm_iconst (pc := 86) dX8_cut_86 zc_i_0 ?_
      refine sm_cV (pc := 87) (ci := 8) (n := 4) (mc := 0) (ms := 0) rfl m_X8_timesFactorial (cr_X8_256 (X := X_X8_cut) (fr := 2) (frc := 1) (pc := 87) (mc := 0) (ms := 0) rfl (by decide) dX8_cut_87) ?_
      refine sm_lstore (pc := 90) (n := 5) dX8_cut_90 ?_
      refine sm_aload_n (pc := 92) (n := 0) dX8_cut_92 rfl ?_
      refine sm_lload (pc := 93) (n := 5) dX8_cut_93 ?_
      exact scX8_cut_95 P j128 hj128
    · skip
      refine sm_goto (pc := 74) (tgt := 128) dX8_cut_74 (by decide) ?_
      exact hj128
noncomputable def b_X8_cut {d : Nat} (P : zP d) : zK d := (xild 1 (xcS 1 0 0 f_X8_isSlot (xjoin (bX8_cut_32 P) (fun j32 => (xif0 t0eq j32 (xild 3 (xcS 1 0 0 f_X8_isSlot (xif0 t0eq j32 (xild 2 (xif0 t0ge (xild 2 (xald 0 (xgfR 24 7 (xgfR 21 10 (xgfI 16 3 (xcmp tge j32 (xald 0 (xgfR 24 3 (xpL 0 (xcS 2 0 0 f_J7_fill_d0a16 (xpI 0 (xist 4 (xloop (fun r45 => (lX8_cut_45 P r45)) 100000))))))))))))) j32))))))))))
set_option maxRecDepth 100000 in
set_option maxHeartbeats 4000000 in
theorem s_X8_cut {d : Nat} [zGh] (P : zP d) : zSim X_X8_cut 2 P 0 (b_X8_cut P) := by
  unfold b_X8_cut
  refine sm_iload_n (pc := 0) (n := 1) dX8_cut_0 rfl ?_
  refine sm_cS (pc := 1) (n := 1) (mc := 0) (ms := 0) m_X8_isSlot (cr_X8_88 (X := X_X8_cut) (fr := 2) (frc := 1) (pc := 1) (mc := 0) (ms := 0) rfl (by decide) dX8_cut_1) ?_
  refine sm_join (pc := 4) (pc' := 32) (sbX8_cut_32 P) (fun j32 hj32 => ?_)
  refine sm_if_eq (pc := 4) (tgt := 32) dX8_cut_4 (by decide) ?_ ?_
  · skip
    exact hj32
  · skip
    refine sm_iload_n (pc := 7) (n := 3) dX8_cut_7 rfl ?_
    refine sm_cS (pc := 8) (n := 1) (mc := 0) (ms := 0) m_X8_isSlot (cr_X8_88 (X := X_X8_cut) (fr := 2) (frc := 1) (pc := 8) (mc := 0) (ms := 0) rfl (by decide) dX8_cut_8) ?_
    refine sm_if_eq (pc := 11) (tgt := 32) dX8_cut_11 (by decide) ?_ ?_
    · skip
      exact hj32
    · skip
      refine sm_iload_n (pc := 14) (n := 2) dX8_cut_14 rfl ?_
      refine sm_if_lt (pc := 15) (tgt := 32) dX8_cut_15 (by decide) ?_ ?_
      · skip
        exact hj32
      · skip
        refine sm_iload_n (pc := 18) (n := 2) dX8_cut_18 rfl ?_
        refine sm_aload_n (pc := 19) (n := 0) dX8_cut_19 rfl ?_
        refine gf_X8_47 (pc := 20) rfl dX8_cut_20 ?_
        refine gf_X8_152 (pc := 23) rfl dX8_cut_23 ?_
        refine gf_X8_236 (pc := 26) rfl dX8_cut_26 ?_
        refine sm_icmp_lt (pc := 29) (tgt := 34) dX8_cut_29 (by decide) ?_ ?_
        · skip
          refine sm_aload_n (pc := 34) (n := 0) dX8_cut_34 rfl ?_
          refine gf_X8_26 (pc := 35) rfl dX8_cut_35 ?_
          refine sm_lconst (pc := 38) dX8_cut_38 zc_l_0 ?_
          refine sm_cS (pc := 39) (n := 2) (mc := 0) (ms := 0) m_J7_fill_d0a16 (cr_X8_68 (X := X_X8_cut) (fr := 2) (frc := 1) (pc := 39) (mc := 0) (ms := 0) rfl (by decide) dX8_cut_39) ?_
          refine sm_iconst (pc := 42) dX8_cut_42 zc_i_0 ?_
          refine sm_istore (pc := 43) (n := 4) dX8_cut_43 ?_
          exact sm_loop (fun r45 hr45 => slX8_cut_45 P r45 hr45) _
        · skip
          exact hj32
noncomputable def f_X8_cut {d : Nat} : List zV → zH d → zP d → Bool := zfn 7 b_X8_cut
theorem m_X8_cut {d : Nat} : zMet (d := d) X_X8_cut yX8_cut 2 f_X8_cut := zmet_mk (X := X_X8_cut) (by decide) rfl rfl s_X8_cut

abbrev X_X8_look : zM := (RX8, cX8_look, 2, (some .int), "look")
noncomputable def bX8_look_127 {d : Nat} (P : zP d) : zK d := (xpI 4294967295 (xiret P))
set_option maxRecDepth 100000 in
set_option maxHeartbeats 4000000 in
theorem sbX8_look_127 {d : Nat} [zGh] (P : zP d) : zSim X_X8_look 3 P 127 (bX8_look_127 P) := by
  unfold bX8_look_127
  refine sm_iconst (pc := 127) dX8_look_127 zc_i_m1 ?_
  exact sm_ireturn (pc := 128) dX8_look_128 rfl
noncomputable def bX8_look_52 {d : Nat} (P : zP d) : zK d := (xald 0 (xgfR 24 6 (xgfI 23 0 (xiret P))))
set_option maxRecDepth 100000 in
set_option maxHeartbeats 4000000 in
theorem sbX8_look_52 {d : Nat} [zGh] (P : zP d) : zSim X_X8_look 3 P 52 (bX8_look_52 P) := by
  unfold bX8_look_52
  refine sm_aload_n (pc := 52) (n := 0) dX8_look_52 rfl ?_
  refine gf_X8_40 (pc := 53) rfl dX8_look_53 ?_
  refine gf_X8_176 (pc := 56) rfl dX8_look_56 ?_
  exact sm_ireturn (pc := 59) dX8_look_59 rfl
noncomputable def bX8_look_60 {d : Nat} (P : zP d) : zK d := (xald 0 (xgfR 24 7 (xgfI 21 1 (xiret P))))
set_option maxRecDepth 100000 in
set_option maxHeartbeats 4000000 in
theorem sbX8_look_60 {d : Nat} [zGh] (P : zP d) : zSim X_X8_look 3 P 60 (bX8_look_60 P) := by
  unfold bX8_look_60
  refine sm_aload_n (pc := 60) (n := 0) dX8_look_60 rfl ?_
  refine gf_X8_47 (pc := 61) rfl dX8_look_61 ?_
  refine gf_X8_179 (pc := 64) rfl dX8_look_64 ?_
  exact sm_ireturn (pc := 67) dX8_look_67 rfl
noncomputable def bX8_look_68 {d : Nat} (P : zP d) : zK d := (xald 0 (xgfR 24 6 (xgfI 23 1 (xiret P))))
set_option maxRecDepth 100000 in
set_option maxHeartbeats 4000000 in
theorem sbX8_look_68 {d : Nat} [zGh] (P : zP d) : zSim X_X8_look 3 P 68 (bX8_look_68 P) := by
  unfold bX8_look_68
  refine sm_aload_n (pc := 68) (n := 0) dX8_look_68 rfl ?_
  refine gf_X8_40 (pc := 69) rfl dX8_look_69 ?_
  refine gf_X8_74 (pc := 72) rfl dX8_look_72 ?_
  exact sm_ireturn (pc := 75) dX8_look_75 rfl
noncomputable def bX8_look_76 {d : Nat} (P : zP d) : zK d := (xald 0 (xgfR 24 7 (xgfI 21 3 (xiret P))))
set_option maxRecDepth 100000 in
set_option maxHeartbeats 4000000 in
theorem sbX8_look_76 {d : Nat} [zGh] (P : zP d) : zSim X_X8_look 3 P 76 (bX8_look_76 P) := by
  unfold bX8_look_76
  refine sm_aload_n (pc := 76) (n := 0) dX8_look_76 rfl ?_
  refine gf_X8_47 (pc := 77) rfl dX8_look_77 ?_
  refine gf_X8_291 (pc := 80) rfl dX8_look_80 ?_
  exact sm_ireturn (pc := 83) dX8_look_83 rfl
noncomputable def bX8_look_84 {d : Nat} (P : zP d) : zK d := (xald 0 (xgfR 24 7 (xgfR 21 10 (xgfI 16 3 (xiret P)))))
set_option maxRecDepth 100000 in
set_option maxHeartbeats 4000000 in
theorem sbX8_look_84 {d : Nat} [zGh] (P : zP d) : zSim X_X8_look 3 P 84 (bX8_look_84 P) := by
  unfold bX8_look_84
  refine sm_aload_n (pc := 84) (n := 0) dX8_look_84 rfl ?_
  refine gf_X8_47 (pc := 85) rfl dX8_look_85 ?_
  refine gf_X8_152 (pc := 88) rfl dX8_look_88 ?_
  refine gf_X8_236 (pc := 91) rfl dX8_look_91 ?_
  exact sm_ireturn (pc := 94) dX8_look_94 rfl
noncomputable def bX8_look_95 {d : Nat} (P : zP d) : zK d := (xald 0 (xgfR 24 6 (xgfI 23 2 (xiret P))))
set_option maxRecDepth 100000 in
set_option maxHeartbeats 4000000 in
theorem sbX8_look_95 {d : Nat} [zGh] (P : zP d) : zSim X_X8_look 3 P 95 (bX8_look_95 P) := by
  unfold bX8_look_95
  refine sm_aload_n (pc := 95) (n := 0) dX8_look_95 rfl ?_
  refine gf_X8_40 (pc := 96) rfl dX8_look_96 ?_
  refine gf_X8_266 (pc := 99) rfl dX8_look_99 ?_
  exact sm_ireturn (pc := 102) dX8_look_102 rfl
noncomputable def bX8_look_103 {d : Nat} (P : zP d) : zK d := (xald 0 (xgfR 24 4 (xgfI 22 1 (xiret P))))
set_option maxRecDepth 100000 in
set_option maxHeartbeats 4000000 in
theorem sbX8_look_103 {d : Nat} [zGh] (P : zP d) : zSim X_X8_look 3 P 103 (bX8_look_103 P) := by
  unfold bX8_look_103
  refine sm_aload_n (pc := 103) (n := 0) dX8_look_103 rfl ?_
  refine gf_X8_33 (pc := 104) rfl dX8_look_104 ?_
  refine gf_X8_85 (pc := 107) rfl dX8_look_107 ?_
  exact sm_ireturn (pc := 110) dX8_look_110 rfl
noncomputable def bX8_look_111 {d : Nat} (P : zP d) : zK d := (xald 0 (xcV 24 1 0 0 f_X8_slotsInUse (xiret P)))
set_option maxRecDepth 100000 in
set_option maxHeartbeats 4000000 in
theorem sbX8_look_111 {d : Nat} [zGh] (P : zP d) : zSim X_X8_look 3 P 111 (bX8_look_111 P) := by
  unfold bX8_look_111
  refine sm_aload_n (pc := 111) (n := 0) dX8_look_111 rfl ?_
  refine sm_cV (pc := 112) (ci := 8) (n := 1) (mc := 0) (ms := 0) rfl m_X8_slotsInUse (cr_X8_294 (X := X_X8_look) (fr := 3) (frc := 1) (pc := 112) (mc := 0) (ms := 0) rfl (by decide) dX8_look_112) ?_
  exact sm_ireturn (pc := 115) dX8_look_115 rfl
noncomputable def bX8_look_116 {d : Nat} (P : zP d) : zK d := (xald 0 (xgfR 24 7 (xgfR 21 10 (xcV 16 1 0 0 f_X0_withoutDefect (xiret P)))))
set_option maxRecDepth 100000 in
set_option maxHeartbeats 4000000 in
theorem sbX8_look_116 {d : Nat} [zGh] (P : zP d) : zSim X_X8_look 3 P 116 (bX8_look_116 P) := by
  unfold bX8_look_116
  refine sm_aload_n (pc := 116) (n := 0) dX8_look_116 rfl ?_
  refine gf_X8_47 (pc := 117) rfl dX8_look_117 ?_
  refine gf_X8_152 (pc := 120) rfl dX8_look_120 ?_
  refine sm_cV (pc := 123) (ci := 0) (n := 1) (mc := 0) (ms := 0) rfl m_X0_withoutDefect (cr_X8_298 (X := X_X8_look) (fr := 3) (frc := 2) (pc := 123) (mc := 0) (ms := 0) rfl (by decide) dX8_look_123) ?_
  exact sm_ireturn (pc := 126) dX8_look_126 rfl
noncomputable def b_X8_look {d : Nat} (P : zP d) : zK d := (xild 1 (xtsw [(bX8_look_52 P), (bX8_look_60 P), (bX8_look_68 P), (bX8_look_76 P), (bX8_look_84 P), (bX8_look_95 P), (bX8_look_103 P), (bX8_look_111 P), (bX8_look_116 P)] (bX8_look_127 P)))
set_option maxRecDepth 100000 in
set_option maxHeartbeats 4000000 in
theorem s_X8_look {d : Nat} [zGh] (P : zP d) : zSim X_X8_look 3 P 0 (b_X8_look P) := by
  unfold b_X8_look
  refine sm_iload_n (pc := 0) (n := 1) dX8_look_0 rfl ?_
  exact sm_tsw3 (pc := 1) (n := 8) (tdf := 127) [52, 60, 68, 76, 84, 95, 103, 111, 116] rfl (by decide) dX8_look_1 rfl (by decide +kernel) (by decide) (sbX8_look_127 P) ⟨sbX8_look_52 P, sbX8_look_60 P, sbX8_look_68 P, sbX8_look_76 P, sbX8_look_84 P, sbX8_look_95 P, sbX8_look_103 P, sbX8_look_111 P, sbX8_look_116 P, trivial⟩
noncomputable def f_X8_look {d : Nat} : List zV → zH d → zP d → Bool := zfn 2 b_X8_look
theorem m_X8_look {d : Nat} : zMet (d := d) X_X8_look yX8_look 3 f_X8_look := zmet_mk (X := X_X8_look) (by decide) rfl rfl s_X8_look
end
section
/-! numbers within bounds: least, one above the greatest -/
theorem zsub_n (x y : Nat) : Nat.sub x y = x - y := rfl
theorem zmod_n (x y : Nat) : Nat.mod x y = x % y := rfl
theorem zadd_n (x y : Nat) : Nat.add x y = x + y := rfl
theorem zdiv_n (x y : Nat) : Nat.div x y = x / y := rfl
theorem zsuc_n (x : Nat) : Nat.succ x = x + 1 := rfl
def zlo (n : Nat) : Nat := cond (Nat.ble 4294967296 n) (Nat.mod (Nat.div n 1099511627776) 4294967296) n
def zhc (c : Nat) : Nat := cond (Nat.ble c 4294967296) 4294967296 (cond (Nat.ble 549755813888 c) 4294967296 (Nat.sub c 4294967296))
def zhi (n : Nat) : Nat := cond (Nat.ble 4294967296 n) (zhc (Nat.mod n 1099511627776)) (Nat.succ n)
theorem zlo_ok [zGh] {n : Nat} {i : Int32} (h : zIs n i) : zlo n ≤ zi i := by
  unfold zlo
  cases hb : Nat.ble 4294967296 n
  · rw [cond_false]
    have := h.1 (zble_f hb)
    omega
  · exact h.2.2.1
theorem zhi_ok [zGh] {n : Nat} {i : Int32} (h : zIs n i) : zi i < zhi n := by
  have hl := zi_lt i
  unfold zhi
  cases hb : Nat.ble 4294967296 n
  · rw [cond_false, zsuc_n]
    have := h.1 (zble_f hb)
    omega
  · rw [cond_true]
    unfold zhc
    cases h1 : Nat.ble (Nat.mod n 1099511627776) 4294967296
    · rw [cond_false]
      cases h2 : Nat.ble 549755813888 (Nat.mod n 1099511627776)
      · rw [cond_false, zsub_n, zmod_n]
        have q1 := zble_f h1
        have q2 := zble_f h2
        rw [zmod_n] at q1 q2
        exact h.2.1 q1 q2
      · rw [cond_true]
        exact hl
    · rw [cond_true]
      exact hl
/-- the code of what lies between -/
def zrg (lo hi : Nat) : Nat := cond (Nat.ble hi (Nat.succ lo)) lo (Nat.add (Nat.add 4294967296 (cond (Nat.ble 4294967296 hi) 0 hi)) (Nat.mul 1099511627776 lo))
theorem zrg_ok [zGh] {lo hi : Nat} {i : Int32} (h1 : lo ≤ zi i) (h2 : zi i < hi) : zIs (zrg lo hi) i := by
  have hl := zi_lt i
  unfold zrg
  cases hb : Nat.ble hi (Nat.succ lo)
  · rw [cond_false]
    have hb2 : lo + 1 < hi := zble_f hb
    have key : ∀ c : Nat, c < 4294967296 → (0 < c → zi i < c) → zIs (4294967296 + c + 1099511627776 * lo) i := by
      intro c hc hci
      have e1 : (4294967296 + c + 1099511627776 * lo) % 1099511627776 = 4294967296 + c := by omega
      have e2 : (4294967296 + c + 1099511627776 * lo) / 1099511627776 = lo := by omega
      refine ⟨fun q => absurd q (by omega), fun q1 _ => ?_, ?_, fun q => absurd q (by omega)⟩
      · rw [e1] at q1 ⊢
        have := hci (by omega)
        omega
      · rw [e2, Nat.mod_eq_of_lt (by omega)]
        exact h1
    cases hc : Nat.ble 4294967296 hi
    · exact key hi (zble_f hc) (fun _ => h2)
    · exact key 0 (by omega) (fun q => absurd q (Nat.lt_irrefl _))
  · have : hi ≤ lo + 1 := Nat.le_of_ble_eq_true hb
    rw [cond_true]
    exact zIs_e (by omega)
def zaddq (a b : Nat) : Nat := cond (Nat.ble (Nat.add (zhi a) (zhi b)) 4294967297) (zrg (Nat.add (zlo a) (zlo b)) (Nat.pred (Nat.add (zhi a) (zhi b)))) (cond (Nat.ble 2147483648 b) (cond (Nat.ble 4294967296 b) 4294967296 (cond (Nat.ble (Nat.sub 4294967296 b) (zlo a)) (zrg (Nat.sub (zlo a) (Nat.sub 4294967296 b)) (Nat.sub (zhi a) (Nat.sub 4294967296 b))) 4294967296)) 4294967296)
def zaddR (a b : Nat) : Nat := cond (Nat.ble 4294967296 (Nat.lor a b)) (zaddq a b) (Nat.mod (Nat.add a b) 4294967296)
theorem zaddR_ok [zGh] {a b : Nat} {x y : Int32} (hx : zIs a x) (hy : zIs b y) : zIs (zaddR a b) (x + y) := by
  have lx := zlo_ok hx
  have ly := zlo_ok hy
  have ux := zhi_ok hx
  have uy := zhi_ok hy
  have hs := zi_add x y
  unfold zaddR
  cases hb : Nat.ble 4294967296 (Nat.lor a b)
  · obtain ⟨h1, h2⟩ := zle32 hb
    rw [cond_false]
    exact zIs_e (by rw [hs, hx.1 h1, hy.1 h2]; rfl)
  · rw [cond_true]
    unfold zaddq
    cases h1 : Nat.ble (Nat.add (zhi a) (zhi b)) 4294967297
    · rw [cond_false]
      cases h2 : Nat.ble 2147483648 b
      · exact zIs_u _
      · rw [cond_true]
        cases h3 : Nat.ble 4294967296 b
        · rw [cond_false]
          have e := hy.1 (zble_f h3)
          have q3 := zble_f h3
          cases h4 : Nat.ble (Nat.sub 4294967296 b) (zlo a)
          · exact zIs_u _
          · have q4 : 4294967296 - b ≤ zlo a := Nat.le_of_ble_eq_true h4
            rw [cond_true]
            have hxl := zi_lt x
            refine zrg_ok (show zlo a - (4294967296 - b) ≤ _ from ?_) (show _ < zhi a - (4294967296 - b) from ?_) <;> rw [hs, e] <;> omega
        · exact zIs_u _
    · have q1 : zhi a + zhi b ≤ 4294967297 := Nat.le_of_ble_eq_true h1
      rw [cond_true]
      refine zrg_ok (show zlo a + zlo b ≤ _ from ?_) (show _ < zhi a + zhi b - 1 from ?_) <;> rw [hs] <;> omega
def zsubR (a b : Nat) : Nat := cond (Nat.ble 4294967296 (Nat.lor a b)) (cond (Nat.ble (Nat.pred (zhi b)) (zlo a)) (zrg (Nat.sub (zlo a) (Nat.pred (zhi b))) (Nat.sub (zhi a) (zlo b))) 4294967296) (Nat.mod (Nat.add a (Nat.sub 4294967296 b)) 4294967296)
theorem zsubR_ok [zGh] {a b : Nat} {x y : Int32} (hx : zIs a x) (hy : zIs b y) : zIs (zsubR a b) (x - y) := by
  have lx := zlo_ok hx
  have ly := zlo_ok hy
  have ux := zhi_ok hx
  have uy := zhi_ok hy
  have hxl := zi_lt x
  have hs := zi_sub x y
  unfold zsubR
  cases hb : Nat.ble 4294967296 (Nat.lor a b)
  · obtain ⟨h1, h2⟩ := zle32 hb
    rw [cond_false]
    exact zIs_e (by rw [hs, hx.1 h1, hy.1 h2]; rfl)
  · rw [cond_true]
    cases h1 : Nat.ble (Nat.pred (zhi b)) (zlo a)
    · exact zIs_u _
    · have q1 : zhi b - 1 ≤ zlo a := Nat.le_of_ble_eq_true h1
      rw [cond_true]
      refine zrg_ok (show zlo a - (zhi b - 1) ≤ _ from ?_) (show _ < zhi a - zlo b from ?_) <;> rw [hs] <;> omega
def zmulR (a b : Nat) : Nat := cond (Nat.ble 4294967296 (Nat.lor a b)) (cond (Nat.ble (Nat.mul (Nat.pred (zhi a)) (Nat.pred (zhi b))) 4294967295) (zrg (Nat.mul (zlo a) (zlo b)) (Nat.succ (Nat.mul (Nat.pred (zhi a)) (Nat.pred (zhi b))))) 4294967296) (Nat.mod (Nat.mul a b) 4294967296)
theorem zmulR_ok [zGh] {a b : Nat} {x y : Int32} (hx : zIs a x) (hy : zIs b y) : zIs (zmulR a b) (x * y) := by
  have lx := zlo_ok hx
  have ly := zlo_ok hy
  have ux := zhi_ok hx
  have uy := zhi_ok hy
  have hs := zi_mul x y
  unfold zmulR
  cases hb : Nat.ble 4294967296 (Nat.lor a b)
  · obtain ⟨h1, h2⟩ := zle32 hb
    rw [cond_false]
    exact zIs_e (by rw [hs, hx.1 h1, hy.1 h2]; rfl)
  · rw [cond_true]
    cases h1 : Nat.ble (Nat.mul (Nat.pred (zhi a)) (Nat.pred (zhi b))) 4294967295
    · exact zIs_u _
    · have q1 : (zhi a - 1) * (zhi b - 1) ≤ 4294967295 := Nat.le_of_ble_eq_true h1
      rw [cond_true]
      have m1 : zi x * zi y ≤ (zhi a - 1) * (zhi b - 1) := Nat.mul_le_mul (by omega) (by omega)
      have m2 : zlo a * zlo b ≤ zi x * zi y := Nat.mul_le_mul lx ly
      have e : zi (x * y) = zi x * zi y := by rw [hs, Nat.mod_eq_of_lt (by omega)]
      refine zrg_ok (show zlo a * zlo b ≤ _ from ?_) (show _ < (zhi a - 1) * (zhi b - 1) + 1 from ?_) <;> rw [e] <;> omega
def zandR (a b : Nat) : Nat := cond (Nat.ble 4294967296 (Nat.lor a b)) (cond (Nat.ble 4294967296 b) (cond (Nat.ble 4294967296 a) 4294967296 (zrg 0 (Nat.succ a))) (zrg 0 (Nat.succ b))) (Nat.land a b)
theorem zandR_ok [zGh] {a b : Nat} {x y : Int32} (hx : zIs a x) (hy : zIs b y) : zIs (zandR a b) (x &&& y) := by
  have hs := zi_and x y
  unfold zandR
  cases hb : Nat.ble 4294967296 (Nat.lor a b)
  · obtain ⟨h1, h2⟩ := zle32 hb
    rw [cond_false]
    exact zIs_e (by rw [hs, hx.1 h1, hy.1 h2])
  · rw [cond_true]
    cases h1 : Nat.ble 4294967296 b
    · rw [cond_false]
      have e := hy.1 (zble_f h1)
      refine zrg_ok (Nat.zero_le _) (show _ < b + 1 from ?_)
      rw [hs, e]
      exact Nat.lt_succ_of_le Nat.and_le_right
    · rw [cond_true]
      cases h2 : Nat.ble 4294967296 a
      · rw [cond_false]
        have e := hx.1 (zble_f h2)
        refine zrg_ok (Nat.zero_le _) (show _ < a + 1 from ?_)
        rw [hs, e]
        exact Nat.lt_succ_of_le Nat.and_le_left
      · exact zIs_u _
def zremR (a b : Nat) : Nat := cond (Nat.ble 2147483648 (Nat.lor a b)) (cond (Nat.ble 2147483648 b) 4294967296 (cond (Nat.ble (zhi a) 2147483648) (cond (Nat.ble (zhi a) b) a (zrg 0 b)) 4294967296)) (Nat.mod a b)
def zdivR (a b : Nat) : Nat := cond (Nat.ble 2147483648 (Nat.lor a b)) (cond (Nat.ble 2147483648 b) 4294967296 (cond (Nat.ble (zhi a) 2147483648) (zrg (Nat.div (zlo a) b) (Nat.succ (Nat.div (Nat.pred (zhi a)) b))) 4294967296)) (Nat.div a b)
theorem zi_rem {x y : Int32} (hx : zi x < 2147483648) (hy : zi y < 2147483648) : zi (x - x / y * y) = zi x % zi y := by
  have h := zrem_ok (a := zi x) (b := zi y) (x := x) (y := y) (fun _ => rfl) (fun _ => rfl)
  unfold zrem at h
  have hl : Nat.ble 2147483648 (Nat.lor (zi x) (zi y)) = false := by
    cases h : Nat.ble 2147483648 (Nat.lor (zi x) (zi y))
    · rfl
    · exact absurd (Nat.le_of_ble_eq_true h) (Nat.not_le.mpr (Nat.or_lt_two_pow (n := 31) hx hy))
  rw [hl, cond_false] at h
  exact h (Nat.lt_of_le_of_lt (Nat.mod_le _ _) (by omega))
theorem zremR_ok [zGh] {a b : Nat} {x y : Int32} (hx : zIs a x) (hy : zi y = b) (hb0 : 0 < b) : zIs (zremR a b) (x - x / y * y) := by
  have lx := zlo_ok hx
  have ux := zhi_ok hx
  unfold zremR
  cases hb : Nat.ble 2147483648 (Nat.lor a b)
  · obtain ⟨h1, h2⟩ := zle31 hb
    rw [cond_false]
    have e := hx.1 (by omega)
    exact zIs_e (by rw [zi_rem (by omega) (by omega), e, hy]; rfl)
  · rw [cond_true]
    cases h1 : Nat.ble 2147483648 b
    · rw [cond_false]
      have q1 := zble_f h1
      cases h2 : Nat.ble (zhi a) 2147483648
      · exact zIs_u _
      · have q2 := Nat.le_of_ble_eq_true h2
        rw [cond_true]
        have e : zi (x - x / y * y) = zi x % b := by rw [zi_rem (by omega) (by omega), hy]
        cases h3 : Nat.ble (zhi a) b
        · rw [cond_false]
          exact zrg_ok (Nat.zero_le _) (by rw [e]; exact Nat.mod_lt _ hb0)
        · have q3 := Nat.le_of_ble_eq_true h3
          rw [cond_true]
          have e2 : x - x / y * y = x := zi_inj (by rw [e, Nat.mod_eq_of_lt (by omega)])
          rw [e2]
          exact hx
    · exact zIs_u _
theorem zdivR_ok [zGh] {a b : Nat} {x y : Int32} (hx : zIs a x) (hy : zi y = b) (hb0 : 0 < b) : zIs (zdivR a b) (x / y) := by
  have lx := zlo_ok hx
  have ux := zhi_ok hx
  unfold zdivR
  cases hb : Nat.ble 2147483648 (Nat.lor a b)
  · obtain ⟨h1, h2⟩ := zle31 hb
    rw [cond_false]
    have e := hx.1 (by omega)
    exact zIs_e (by rw [zi_div (by omega) (by omega), e, hy]; rfl)
  · rw [cond_true]
    cases h1 : Nat.ble 2147483648 b
    · rw [cond_false]
      have q1 := zble_f h1
      cases h2 : Nat.ble (zhi a) 2147483648
      · exact zIs_u _
      · have q2 := Nat.le_of_ble_eq_true h2
        rw [cond_true]
        have e : zi (x / y) = zi x / b := by rw [zi_div (by omega) (by omega), hy]
        have g1 : zlo a / b ≤ zi x / b := Nat.div_le_div_right lx
        have g2 : zi x / b ≤ (zhi a - 1) / b := Nat.div_le_div_right (by omega)
        refine zrg_ok (show zlo a / b ≤ _ by rw [e]; exact g1) (show _ < (zhi a - 1) / b + 1 by rw [e]; omega)
    · exact zIs_u _
/-- one more: a symbol stays one -/
def zincR (a v : Nat) : Nat := cond (Nat.ble 4722366482869645213696 a) (cond (Nat.beq v 1) (cond (Nat.ble (zhi a) 2147483647) (Nat.add a 309485009821346168236408833) (zaddR a v)) (zaddR a v)) (zaddR a v)
theorem zincR_ok [zGh] {a v : Nat} {x y : Int32} (hx : zIs a x) (hy : zi y = v) : zIs (zincR a v) (x + y) := by
  have hd := zaddR_ok hx (zIs_e hy)
  have ux := zhi_ok hx
  unfold zincR
  cases hb : Nat.ble 4722366482869645213696 a
  · exact hd
  · rw [cond_true]
    cases h1 : Nat.beq v 1
    · exact hd
    · have e1 : v = 1 := Nat.eq_of_beq_eq_true h1
      rw [cond_true]
      cases h2 : Nat.ble (zhi a) 2147483647
      · exact hd
      · have q2 := Nat.le_of_ble_eq_true h2
        have qb := Nat.le_of_ble_eq_true hb
        rw [cond_true]
        have e : zi (x + y) = zi x + 1 := by rw [zi_add, hy, e1, Nat.mod_eq_of_lt (by omega)]
        have hh : 4294967296 < a % 1099511627776 ∧ a % 1099511627776 < 549755813888 ∧ zhi a = a % 1099511627776 - 4294967296 := by
          have q3 : zhi a ≤ 2147483647 := q2
          unfold zhi at q3 ⊢
          have hbb : Nat.ble 4294967296 a = true := Nat.ble_eq_true_of_le (by omega)
          rw [hbb, cond_true] at q3 ⊢
          unfold zhc at q3 ⊢
          rw [zmod_n] at q3 ⊢
          cases k1 : Nat.ble (a % 1099511627776) 4294967296
          · rw [k1, cond_false] at q3
            rw [cond_false]
            cases k2 : Nat.ble 549755813888 (a % 1099511627776)
            · rw [cond_false, zsub_n]
              exact ⟨zble_f k1, zble_f k2, rfl⟩
            · rw [k2, cond_true] at q3; omega
          · rw [k1, cond_true] at q3; omega
        obtain ⟨g1, g2, g3⟩ := hh
        have f3 := hx.2.2.1
        have f4 := hx.2.2.2 qb
        rw [zadd_n]
        refine ⟨fun q => absurd q (by omega), fun _ _ => ?_, ?_, fun _ => ?_⟩
        · rw [e]
          omega
        · rw [e]
          omega
        · have k1 : (a + 309485009821346168236408833) / 4722366482869645213696 = a / 4722366482869645213696 + 65536 := by omega
          rw [k1, e, f4]
          have k2 : (a / 4722366482869645213696 + 65536) % 65536 = a / 4722366482869645213696 % 65536 := by omega
          rw [k2]
          omega
section OPS
variable {d : Nat} {X : zM} {fr : Nat} {P : zP d} {pc pc' : Nat} {k kt kf : zK d}
theorem sm_binR [G : zGh] {z : Nat → Nat → Nat} {F : Int32 → Int32 → Int32} (hz : ∀ {a b : Nat} {x y : Int32}, zIs a x → zIs b y → zIs (z a b) (F x y)) (hg : ∀ x y, zGo X pc pc' [.int y, .int x] [.int (F x y)]) (hs : zSim X fr P pc' k) : zSim X fr P pc (xbin z k) := sm_go (fun ad L S h st hk hst => by
  obtain ⟨b, S, rfl, hk1⟩ := zpI_t hk
  obtain ⟨a, S, rfl, hk2⟩ := zpI_t hk1
  obtain ⟨y, st, rfl, hy, hst⟩ := zRepL_I hst
  obtain ⟨x, st, rfl, hx, hst⟩ := zRepL_I hst
  have hk : zF (fun v => k L (zI v :: S) h) (z a b) = true := hk2
  rw [zF_eq] at hk
  exact ⟨_, [.int y, .int x], [.int (F x y)], st, hk, rfl, hg x y, ⟨⟨_, rfl, hz hx hy⟩, hst⟩⟩) hs
theorem sm_binNR [G : zGh] {z : Nat → Nat → Nat} {F : Int32 → Int32 → Int32} (hz : ∀ {a b : Nat} {x y : Int32}, zIs a x → zi y = b → 0 < b → zIs (z a b) (F x y)) (hg : ∀ x y, ¬ y = 0 → zGo X pc pc' [.int y, .int x] [.int (F x y)]) (hs : zSim X fr P pc' k) : zSim X fr P pc (xbinN z k) := sm_go (fun ad L S h st hk hst => by
  obtain ⟨b, S, rfl, hk1⟩ := zpI_t hk
  obtain ⟨a, S, rfl, hk2⟩ := zpI_t hk1
  obtain ⟨y, st, rfl, hy, hst⟩ := zRepL_I hst
  obtain ⟨x, st, rfl, hx, hst⟩ := zRepL_I hst
  have hk : cond (Nat.beq b 0) false (cond (Nat.ble 4294967296 b) false (zF (fun v => k L (zI v :: S) h) (z a b))) = true := hk2
  cases h1 : Nat.beq b 0
  · cases h2 : Nat.ble 4294967296 b
    · rw [h1, h2, cond_false, cond_false, zF_eq] at hk
      have e := hy.1 (zble_f h2)
      have hb0 : 0 < b := Nat.pos_of_ne_zero (fun q => by rw [q] at h1; cases h1)
      have hne : ¬ y = 0 := fun q => by rw [q, zi_z] at e; omega
      exact ⟨_, [.int y, .int x], [.int (F x y)], st, hk, rfl, hg x y hne, ⟨⟨_, rfl, hz hx e hb0⟩, hst⟩⟩
    · rw [h1, h2] at hk
      cases hk
  · rw [h1] at hk
    cases hk) hs
theorem sm_iaddR [G : zGh] (dg : decode X.2.1 pc = .ok (.iadd, 1)) (hs : zSim X fr P (pc + 1) k) : zSim X fr P pc (xbin zaddR k) := sm_binR zaddR_ok (fun _ _ => fun hx hb kk => lv_iadd hx hb dg kk) hs
theorem sm_isubR [G : zGh] (dg : decode X.2.1 pc = .ok (.isub, 1)) (hs : zSim X fr P (pc + 1) k) : zSim X fr P pc (xbin zsubR k) := sm_binR zsubR_ok (fun _ _ => fun hx hb kk => lv_isub hx hb dg kk) hs
theorem sm_imulR [G : zGh] (dg : decode X.2.1 pc = .ok (.imul, 1)) (hs : zSim X fr P (pc + 1) k) : zSim X fr P pc (xbin zmulR k) := sm_binR zmulR_ok (fun _ _ => fun hx hb kk => lv_imul hx hb dg kk) hs
theorem sm_iandR [G : zGh] (dg : decode X.2.1 pc = .ok (.iand, 1)) (hs : zSim X fr P (pc + 1) k) : zSim X fr P pc (xbin zandR k) := sm_binR zandR_ok (fun _ _ => fun hx hb kk => lv_iand hx hb dg kk) hs
theorem sm_idivR [G : zGh] (dg : decode X.2.1 pc = .ok (.idiv, 1)) (hs : zSim X fr P (pc + 1) k) : zSim X fr P pc (xbinN zdivR k) := sm_binNR zdivR_ok (fun _ _ hne => fun hx hb kk => lv_idiv hx hb dg hne kk) hs
theorem sm_iremR [G : zGh] (dg : decode X.2.1 pc = .ok (.irem, 1)) (hs : zSim X fr P (pc + 1) k) : zSim X fr P pc (xbinN zremR k) := sm_binNR zremR_ok (fun _ _ hne => fun hx hb kk => lv_irem hx hb dg hne kk) hs
noncomputable def xincR (n v : Nat) (k : zK d) : zK d := fun L S h => znth n L (fun u => Sum.rec (motive := fun _ => Bool) (fun a => zF (fun w => zst n (zI w) L (fun L => k L S h)) (zincR a v)) (fun _ => false) u)
theorem sm_iincR [G : zGh] {n v : Nat} {z : Int} (dg : decode X.2.1 pc = .ok (.iinc n z, 3)) (hz : zi (Int32.ofInt z) = v) (hs : zSim X fr P (pc + 3) k) : zSim X fr P pc (xincR n v k) := by
  intro Ch cA D ad0 A MC MS p l e s m args below meth c ls st H locs cells slots L S h Cx hk R0
  obtain ⟨ws, hHp, hpre, hP, hD, hS, hL, hst, hcb, hsb⟩ := R0
  obtain ⟨u, hu, hk2⟩ := znth_t n hk
  match u, hu, hk2 with
  | .inl a, hu, hk2 =>
    have hk2 : zF (fun w => zst n (zI w) L (fun L => k L S h)) (zincR a v) = true := hk2
    rw [zF_eq] at hk2
    obtain ⟨L', hlen, hn, hz2, hk2⟩ := zst_t n hk2
    obtain ⟨hLn, lv, hlv, hall⟩ := hL
    rcases hall n _ hu with q | ⟨x, hx, i, rfl, hi⟩
    · cases q
    · obtain ⟨j, hj⟩ := List.getElem?_of_mem hx
      refine lv_iinc (k := j) Cx.1 Cx.2.1 dg hlv hj rfl (by rw [← hLn]; exact hn) rfl (fun ls' hls => ?_)
      exact hs Ch cA D ad0 A MC MS p l e s m args below meth c ls' _ H locs cells slots L' _ h Cx hk2 ⟨ws, hHp, hpre, hP, hD, hS, zLoc_set1 (by rw [hlen]; exact hLn) hz2 hall (Or.inr ⟨_, rfl, zincR_ok hi hz⟩) hls, hst, hcb, hsb⟩
end OPS
end
section
/-! comparing within bounds: 0 no, 1 yes, 2 either; what a symbol is then known to be -/
def zsl (n : Nat) : Nat := cond (Nat.ble (zhi n) 2147483648) (Nat.add (zlo n) 2147483648) (cond (Nat.ble 2147483648 (zlo n)) (Nat.sub (zlo n) 2147483648) 0)
def zsh (n : Nat) : Nat := cond (Nat.ble (zhi n) 2147483648) (Nat.add (zhi n) 2147483648) (cond (Nat.ble 2147483648 (zlo n)) (Nat.sub (zhi n) 2147483648) 4294967296)
theorem zs_ok [zGh] {n : Nat} {x : Int32} (h : zIs n x) : zsl n ≤ (zi x + 2147483648) % 4294967296 ∧ (zi x + 2147483648) % 4294967296 < zsh n := by
  have lx := zlo_ok h
  have ux := zhi_ok h
  have hl := zi_lt x
  unfold zsl zsh
  rw [zadd_n, zadd_n, zsub_n, zsub_n]
  cases h1 : Nat.ble (zhi n) 2147483648
  · cases h2 : Nat.ble 2147483648 (zlo n)
    · rw [cond_false, cond_false, cond_false, cond_false]
      omega
    · have q2 := Nat.le_of_ble_eq_true h2
      rw [cond_false, cond_true, cond_false, cond_true]
      omega
  · have q1 := Nat.le_of_ble_eq_true h1
    rw [cond_true, cond_true]
    omega
theorem zsk {x y : Int32} : x ≤ y ↔ (zi x + 2147483648) % 4294967296 ≤ (zi y + 2147483648) % 4294967296 := by
  rw [Int32.le_iff_toInt_le]
  have h1 := zi_lt x
  have h2 := zi_lt y
  rcases zi_cases x with ⟨c1, c2⟩ | ⟨c1, c2⟩ <;> rcases zi_cases y with ⟨d1, d2⟩ | ⟨d1, d2⟩ <;> omega
def tleR (a b : Nat) : Nat := cond (Nat.ble 4294967296 (Nat.lor a b)) (cond (Nat.ble (zsh a) (Nat.succ (zsl b))) 1 (cond (Nat.ble (zsh b) (zsl a)) 0 2)) (cond (zlei a b) 1 0)
def tgeR (a b : Nat) : Nat := tleR b a
def teqR (a b : Nat) : Nat := cond (Nat.ble 4294967296 (Nat.lor a b)) (cond (Nat.ble (zhi a) (zlo b)) 0 (cond (Nat.ble (zhi b) (zlo a)) 0 (cond (Nat.ble (zhi a) (Nat.succ (zlo b))) (cond (Nat.ble (zhi b) (Nat.succ (zlo a))) 1 2) 2))) (cond (Nat.beq a b) 1 0)
def zT3 [zGh] (t : Nat → Nat → Nat) (q : Int32 → Int32 → Prop) : Prop := ∀ {a b : Nat} {x y : Int32}, zIs a x → zIs b y → (t a b = 1 → q x y) ∧ (t a b = 0 → ¬ q x y)
theorem tleR_ok [zGh] : zT3 tleR (fun x y => x ≤ y) := by
  intro a b x y hx hy
  obtain ⟨l1, u1⟩ := zs_ok hx
  obtain ⟨l2, u2⟩ := zs_ok hy
  show (tleR a b = 1 → x ≤ y) ∧ (tleR a b = 0 → ¬ x ≤ y)
  rw [zsk]
  unfold tleR
  cases hb : Nat.ble 4294967296 (Nat.lor a b)
  · obtain ⟨h1, h2⟩ := zle32 hb
    rw [cond_false, ← hx.1 h1, ← hy.1 h2]
    cases hc : zlei (zi x) (zi y)
    · refine ⟨fun q => (by cases q), fun _ => ?_⟩
      rw [← zsk]
      intro q
      rw [zlei_ok.mpr q] at hc
      cases hc
    · exact ⟨fun _ => zsk.mp (zlei_ok.mp hc), fun q => (by cases q)⟩
  · rw [cond_true]
    cases h1 : Nat.ble (zsh a) (Nat.succ (zsl b))
    · cases h2 : Nat.ble (zsh b) (zsl a)
      · exact ⟨fun q => (by cases q), fun q => (by cases q)⟩
      · have q2 := Nat.le_of_ble_eq_true h2
        exact ⟨fun q => (by cases q), fun _ => by omega⟩
    · have q1 : zsh a ≤ zsl b + 1 := Nat.le_of_ble_eq_true h1
      exact ⟨fun _ => by omega, fun q => (by cases q)⟩
theorem tgeR_ok [zGh] : zT3 tgeR (fun x y => y ≤ x) := fun hx hy => tleR_ok hy hx
theorem teqR_ok [zGh] : zT3 teqR (fun x y => x = y) := by
  intro a b x y hx hy
  have lx := zlo_ok hx
  have ux := zhi_ok hx
  have ly := zlo_ok hy
  have uy := zhi_ok hy
  show (teqR a b = 1 → x = y) ∧ (teqR a b = 0 → ¬ x = y)
  unfold teqR
  cases hb : Nat.ble 4294967296 (Nat.lor a b)
  · obtain ⟨h1, h2⟩ := zle32 hb
    rw [cond_false, ← hx.1 h1, ← hy.1 h2]
    cases hc : Nat.beq (zi x) (zi y)
    · exact ⟨fun q => (by cases q), fun _ q => by rw [q, Nat.beq_refl] at hc; cases hc⟩
    · exact ⟨fun _ => zi_inj (Nat.eq_of_beq_eq_true hc), fun q => (by cases q)⟩
  · rw [cond_true]
    cases h1 : Nat.ble (zhi a) (zlo b)
    · rw [cond_false]
      cases h2 : Nat.ble (zhi b) (zlo a)
      · rw [cond_false]
        cases h3 : Nat.ble (zhi a) (Nat.succ (zlo b))
        · exact ⟨fun q => (by cases q), fun q => (by cases q)⟩
        · rw [cond_true]
          cases h4 : Nat.ble (zhi b) (Nat.succ (zlo a))
          · exact ⟨fun q => (by cases q), fun q => (by cases q)⟩
          · have q3 : zhi a ≤ zlo b + 1 := Nat.le_of_ble_eq_true h3
            have q4 : zhi b ≤ zlo a + 1 := Nat.le_of_ble_eq_true h4
            exact ⟨fun _ => zi_inj (by omega), fun q => (by cases q)⟩
      · have q2 := Nat.le_of_ble_eq_true h2
        exact ⟨fun q => (by cases q), fun _ q => by rw [q] at lx ux; omega⟩
    · have q1 := Nat.le_of_ble_eq_true h1
      exact ⟨fun q => (by cases q), fun _ q => by rw [q] at lx ux; omega⟩
/-- bounds of the first number behind a comparison, of numbers that aren't below 0 -/
def znn (a b u v : Nat) : Nat := cond (Nat.ble (zhi a) 2147483648) (cond (Nat.ble (zhi b) 2147483648) u v) v
def rlS (a _b : Nat) : Nat := zlo a
def rhS (a _b : Nat) : Nat := zhi a
def rhLe (a b : Nat) : Nat := znn a b (Nat.min (zhi a) (zhi b)) (zhi a)
def rlGt (a b : Nat) : Nat := znn a b (Nat.max (zlo a) (Nat.succ (zlo b))) (zlo a)
def rlGe (a b : Nat) : Nat := znn a b (Nat.max (zlo a) (zlo b)) (zlo a)
def rhLt (a b : Nat) : Nat := znn a b (Nat.min (zhi a) (Nat.pred (zhi b))) (zhi a)
def rlEq (a b : Nat) : Nat := Nat.max (zlo a) (zlo b)
def rhEq (a b : Nat) : Nat := Nat.min (zhi a) (zhi b)
def rlNe (a b : Nat) : Nat := cond (Nat.beq b (zlo a)) (Nat.succ b) (zlo a)
def rhNe (a b : Nat) : Nat := cond (Nat.beq (Nat.succ b) (zhi a)) b (zhi a)
def zRB [zGh] (q : Int32 → Int32 → Prop) (rl rh : Nat → Nat → Nat) : Prop := ∀ {a b : Nat} {x y : Int32}, zIs a x → zIs b y → q x y → rl a b ≤ zi x ∧ zi x < rh a b
theorem znn_ok {a b u v : Nat} {p : Nat → Prop} (h : zhi a ≤ 2147483648 → zhi b ≤ 2147483648 → p u) (h2 : p v) : p (znn a b u v) := by
  unfold znn
  cases h3 : Nat.ble (zhi a) 2147483648
  · exact h2
  · cases h4 : Nat.ble (zhi b) 2147483648
    · exact h2
    · exact h (Nat.le_of_ble_eq_true h3) (Nat.le_of_ble_eq_true h4)
theorem zle_nn {x y : Int32} (hx : zi x < 2147483648) (hy : zi y < 2147483648) : x ≤ y ↔ zi x ≤ zi y := by
  rw [zsk]
  omega
theorem rb_le [zGh] : zRB (fun x y => x ≤ y) rlS rhLe := by
  intro a b x y hx hy q
  have lx := zlo_ok hx
  have ux := zhi_ok hx
  have uy := zhi_ok hy
  refine ⟨lx, znn_ok (p := fun n => zi x < n) (fun g1 g2 => ?_) ux⟩
  rw [zle_nn (by omega) (by omega)] at q
  exact Nat.lt_min.mpr ⟨ux, by omega⟩
theorem rb_gt [zGh] : zRB (fun x y => ¬ x ≤ y) rlGt rhS := by
  intro a b x y hx hy q
  have lx := zlo_ok hx
  have ux := zhi_ok hx
  have ly := zlo_ok hy
  have uy := zhi_ok hy
  refine ⟨znn_ok (p := fun n => n ≤ zi x) (fun g1 g2 => ?_) lx, ux⟩
  rw [zle_nn (by omega) (by omega)] at q
  exact Nat.max_le.mpr ⟨lx, by show zlo b + 1 ≤ _; omega⟩
theorem rb_ge [zGh] : zRB (fun x y => y ≤ x) rlGe rhS := by
  intro a b x y hx hy q
  have lx := zlo_ok hx
  have ux := zhi_ok hx
  have ly := zlo_ok hy
  have uy := zhi_ok hy
  refine ⟨znn_ok (p := fun n => n ≤ zi x) (fun g1 g2 => ?_) lx, ux⟩
  rw [zle_nn (by omega) (by omega)] at q
  exact Nat.max_le.mpr ⟨lx, by omega⟩
theorem rb_lt [zGh] : zRB (fun x y => ¬ y ≤ x) rlS rhLt := by
  intro a b x y hx hy q
  have lx := zlo_ok hx
  have ux := zhi_ok hx
  have uy := zhi_ok hy
  refine ⟨lx, znn_ok (p := fun n => zi x < n) (fun g1 g2 => ?_) ux⟩
  rw [zle_nn (by omega) (by omega)] at q
  exact Nat.lt_min.mpr ⟨ux, by show _ < zhi b - 1; omega⟩
theorem rb_eq [zGh] : zRB (fun x y => x = y) rlEq rhEq := by
  intro a b x y hx hy q
  have q : x = y := q
  subst q
  exact ⟨Nat.max_le.mpr ⟨zlo_ok hx, zlo_ok hy⟩, Nat.lt_min.mpr ⟨zhi_ok hx, zhi_ok hy⟩⟩
theorem rb_ne [zGh] : zRB (fun x y => ¬ x = y) rlNe rhNe := by
  intro a b x y hx hy q
  have lx := zlo_ok hx
  have ux := zhi_ok hx
  have hl := zi_lt x
  have key : b < 4294967296 → zi x ≠ b := fun hb e => q (zi_inj (by rw [hy.1 hb, e]))
  unfold rlNe rhNe
  constructor
  · cases h1 : Nat.beq b (zlo a)
    · exact lx
    · have e := Nat.eq_of_beq_eq_true h1
      have := key (by omega)
      show b + 1 ≤ _
      omega
  · cases h1 : Nat.beq (Nat.succ b) (zhi a)
    · exact ux
    · have e : b + 1 = zhi a := Nat.eq_of_beq_eq_true h1
      show _ < b
      by_cases hb : b < 4294967296
      · have := key hb
        omega
      · omega
/-- a symbol with bounds -/
def zsy (key lo hi : Nat) : Nat := Nat.add (Nat.add (Nat.add 4294967296 hi) (Nat.mul 1099511627776 lo)) (Nat.mul 4722366482869645213696 key)
theorem zsy_ok [zGh] {key lo hi : Nat} {i : Int32} (h1 : lo ≤ zi i) (h2 : zi i < hi) (h3 : hi ≤ 2147483648) (h4 : zi i = zg (key % 65536) + key / 65536) : zIs (zsy key lo hi) i := by
  have e0 : zsy key lo hi = 4294967296 + hi + 1099511627776 * lo + 4722366482869645213696 * key := rfl
  have e1 : zsy key lo hi % 1099511627776 = 4294967296 + hi := by rw [e0]; omega
  have e2 : zsy key lo hi / 1099511627776 % 4294967296 = lo := by rw [e0]; omega
  have e3 : zsy key lo hi / 4722366482869645213696 = key := by rw [e0]; omega
  refine ⟨fun q => absurd q (by rw [e0]; omega), fun _ _ => by rw [e1]; omega, by rw [e2]; exact h1, fun _ => by rw [e3]; exact h4⟩
theorem zsy_key (key lo hi : Nat) (h3 : hi ≤ 2147483648) (h1 : lo < 4294967296) : zsy key lo hi / 4722366482869645213696 = key := by
  have e0 : zsy key lo hi = 4294967296 + hi + 1099511627776 * lo + 4722366482869645213696 * key := rfl
  rw [e0]
  omega
noncomputable def zrf (key lo hi : Nat) : List zV → (List zV → Bool) → Bool := List.rec (motive := fun _ => (List zV → Bool) → Bool) (fun k => k []) (fun v _ r k => Sum.rec (motive := fun _ => Bool) (fun n => cond (Nat.beq (Nat.div n 4722366482869645213696) key) (zF (fun m => r (fun t => k (zI m :: t))) (zsy key lo hi)) (r (fun t => k (v :: t)))) (fun _ => r (fun t => k (v :: t))) v)
theorem zrf_t {key lo hi : Nat} : ∀ (L : List zV) {k : List zV → Bool}, zrf key lo hi L k = true → ∃ L' : List zV, L'.length = L.length ∧ (∀ (i : Nat) (v' : zV), L'[i]? = some v' → L[i]? = some v' ∨ ∃ n, L[i]? = some (zI n) ∧ n / 4722366482869645213696 = key ∧ v' = zI (zsy key lo hi)) ∧ k L' = true
  | [], k, h => ⟨[], rfl, fun i v' q => by simp at q, h⟩
  | .inl n :: L, k, h => by
    have h : cond (Nat.beq (Nat.div n 4722366482869645213696) key) (zF (fun m => zrf key lo hi L (fun t => k (zI m :: t))) (zsy key lo hi)) (zrf key lo hi L (fun t => k (zI n :: t))) = true := h
    cases hb : Nat.beq (Nat.div n 4722366482869645213696) key
    · rw [hb, cond_false] at h
      obtain ⟨L', h1, h2, h3⟩ := zrf_t L h
      refine ⟨zI n :: L', by simp [h1], fun i v' q => ?_, h3⟩
      cases i with
      | zero => exact Or.inl q
      | succ i => exact h2 i v' (by simpa using q)
    · rw [hb, cond_true, zF_eq] at h
      obtain ⟨L', h1, h2, h3⟩ := zrf_t L h
      refine ⟨zI (zsy key lo hi) :: L', by simp [h1], fun i v' q => ?_, h3⟩
      cases i with
      | zero => exact Or.inr ⟨n, rfl, Nat.eq_of_beq_eq_true hb, by simpa using q.symm⟩
      | succ i => exact h2 i v' (by simpa using q)
  | .inr u :: L, k, h => by
    have h : zrf key lo hi L (fun t => k (Sum.inr u :: t)) = true := h
    obtain ⟨L', h1, h2, h3⟩ := zrf_t L h
    refine ⟨Sum.inr u :: L', by simp [h1], fun i v' q => ?_, h3⟩
    cases i with
    | zero => exact Or.inl q
    | succ i => exact h2 i v' (by simpa using q)
theorem zLoc_rf [zGh] {ad : zA} {nL key lo hi : Nat} {L L' : List zV} {ls : Array Slot} (hL : zLoc ad nL L ls) (hlen : L'.length = L.length) (hz : ∀ (i : Nat) (v' : zV), L'[i]? = some v' → L[i]? = some v' ∨ ∃ n, L[i]? = some (zI n) ∧ n / 4722366482869645213696 = key ∧ v' = zI (zsy key lo hi)) (hk : 0 < key) (h1 : lo ≤ zg (key % 65536) + key / 65536) (h2 : zg (key % 65536) + key / 65536 < hi) (h3 : hi ≤ 2147483648) : zLoc ad nL L' ls := by
  obtain ⟨a1, lv, a2, a3⟩ := hL
  refine ⟨by rw [hlen]; exact a1, lv, a2, fun i v hv => ?_⟩
  rcases hz i v hv with q | ⟨n, q1, q2, rfl⟩
  · exact a3 i v q
  · rcases a3 i _ q1 with z | ⟨x, hx, j, rfl, hj⟩
    · cases z
    · have hn : 4722366482869645213696 ≤ n := by omega
      have e := hj.2.2.2 hn
      rw [q2] at e
      exact Or.inr ⟨_, hx, j, rfl, zsy_ok (by omega) (by omega) h3 e⟩
section OPS
variable {d : Nat} {X : zM} {fr : Nat} {P : zP d} {pc tgt : Nat} {off : Int} {k kt kf : zK d}
/-- a branch with new bounds for a symbol -/
noncomputable def zbr (a lo hi : Nat) (k : zK d) : zK d := fun L S h => cond (Nat.ble 4722366482869645213696 a) (cond (Nat.ble hi 2147483648) (zrf (Nat.div a 4722366482869645213696) lo hi L (fun L => k L S h)) (k L S h)) (k L S h)
noncomputable def xcmpS (t rl rh sl sh : Nat → Nat → Nat) (kt kf : zK d) : zK d := fun L S h => zpI S (fun b S => zpI S (fun a S => Nat.rec (motive := fun _ => Bool) (zbr a (sl a b) (sh a b) kf L S h) (fun m _ => Nat.rec (motive := fun _ => Bool) (zbr a (rl a b) (rh a b) kt L S h) (fun _ _ => and (zbr a (rl a b) (rh a b) kt L S h) (zbr a (sl a b) (sh a b) kf L S h)) m) (t a b)))
noncomputable def xif0S (t rl rh sl sh : Nat → Nat → Nat) (kt kf : zK d) : zK d := fun L S h => zpI S (fun a S => Nat.rec (motive := fun _ => Bool) (zbr a (sl a 0) (sh a 0) kf L S h) (fun m _ => Nat.rec (motive := fun _ => Bool) (zbr a (rl a 0) (rh a 0) kt L S h) (fun _ _ => and (zbr a (rl a 0) (rh a 0) kt L S h) (zbr a (sl a 0) (sh a 0) kf L S h)) m) (t a 0))
theorem zT3_t {t : Nat} {A B C : Bool} (h : Nat.rec (motive := fun _ => Bool) A (fun m _ => Nat.rec (motive := fun _ => Bool) B (fun _ _ => C) m) t = true) : (t = 0 ∧ A = true) ∨ (t = 1 ∧ B = true) ∨ C = true := by
  match t, h with
  | 0, h => exact Or.inl ⟨rfl, h⟩
  | 1, h => exact Or.inr (Or.inl ⟨rfl, h⟩)
  | t + 2, h => exact Or.inr (Or.inr h)
theorem zbr_t [G : zGh] {ad : zA} {nL a lo hi : Nat} {x : Int32} {L S : List zV} {h : zH d} {ls : Array Slot} (hx : zIs a x) (h1 : lo ≤ zi x) (h2 : zi x < hi) (hk : zbr a lo hi k L S h = true) (hL : zLoc ad nL L ls) : ∃ L', k L' S h = true ∧ zLoc ad nL L' ls := by
  have hk : cond (Nat.ble 4722366482869645213696 a) (cond (Nat.ble hi 2147483648) (zrf (Nat.div a 4722366482869645213696) lo hi L (fun L => k L S h)) (k L S h)) (k L S h) = true := hk
  cases b1 : Nat.ble 4722366482869645213696 a
  · rw [b1, cond_false] at hk
    exact ⟨L, hk, hL⟩
  · rw [b1, cond_true] at hk
    cases b2 : Nat.ble hi 2147483648
    · rw [b2, cond_false] at hk
      exact ⟨L, hk, hL⟩
    · rw [b2, cond_true] at hk
      have q1 := Nat.le_of_ble_eq_true b1
      obtain ⟨L', e1, e2, e3⟩ := zrf_t L hk
      have e := hx.2.2.2 q1
      exact ⟨L', e3, zLoc_rf hL e1 e2 (by show 0 < a / 4722366482869645213696; omega) (by show lo ≤ zg (a / 4722366482869645213696 % 65536) + a / 4722366482869645213696 / 65536; rw [← e]; exact h1) (by show zg (a / 4722366482869645213696 % 65536) + a / 4722366482869645213696 / 65536 < hi; rw [← e]; exact h2) (Nat.le_of_ble_eq_true b2)⟩
theorem sm_cmpS [G : zGh] {t rl rh sl sh : Nat → Nat → Nat} {q : Int32 → Int32 → Prop} {tgf : Nat} (ht : zT3 t q) (hr : zRB q rl rh) (hs : zRB (fun x y => ¬ q x y) sl sh) (row : ∀ {p : Program} {l : Launch} {e : Env} {R : Room} {s : State} {m : MethodId} {args : Array Value} {below : List Frame} {meth : Method} {c : Code} {H : Heap} {locs : List Loc} {cells slots : Nat} {Q : State → Prop} {ls : Array Slot} {rest : List Value} {x y : Int32}, p.tables.exec = Jvm.exec → c.code = X.2.1 → (q x y → W p l e R s m args below meth c H locs cells slots Q (F0 m tgt ls rest)) → (¬ q x y → W p l e R s m args below meth c H locs cells slots Q (F0 m tgf ls rest)) → W p l e R s m args below meth c H locs cells slots Q (F0 m pc ls (.int y :: .int x :: rest)))
    (h1 : zSim X fr P tgt kt) (h2 : zSim X fr P tgf kf) : zSim X fr P pc (xcmpS t rl rh sl sh kt kf) := by
  intro Ch cA D ad0 A MC MS p l e s m args below meth c ls st H locs cells slots L S h Cx hk R0
  obtain ⟨ws, hHp, hpre, hP, hD, hS, hL, hst, hcb, hsb⟩ := R0
  obtain ⟨b, S, rfl, hk1⟩ := zpI_t hk
  obtain ⟨a, S, rfl, hk2⟩ := zpI_t hk1
  obtain ⟨y, st, rfl, hy, hst1⟩ := zRepL_I hst
  obtain ⟨x, st, rfl, hx, hst2⟩ := zRepL_I hst1
  have key : (q x y → zbr a (rl a b) (rh a b) kt L S h = true) ∧ (¬ q x y → zbr a (sl a b) (sh a b) kf L S h = true) := by
    rcases zT3_t hk2 with ⟨e0, g⟩ | ⟨e1, g⟩ | g
    · exact ⟨fun z => absurd z ((ht hx hy).2 e0), fun _ => g⟩
    · exact ⟨fun _ => g, fun z => absurd ((ht hx hy).1 e1) z⟩
    · rw [Bool.and_eq_true] at g
      exact ⟨fun _ => g.1, fun _ => g.2⟩
  refine row Cx.1 Cx.2.1 (fun hq => ?_) (fun hq => ?_)
  · obtain ⟨r1, r2⟩ := hr hx hy hq
    obtain ⟨L', g1, g2⟩ := zbr_t hx r1 r2 (key.1 hq) hL
    exact h1 Ch cA D ad0 A MC MS p l e s m args below meth c ls _ H locs cells slots L' _ h Cx g1 ⟨ws, hHp, hpre, hP, hD, hS, g2, hst2, hcb, hsb⟩
  · obtain ⟨r1, r2⟩ := hs hx hy hq
    obtain ⟨L', g1, g2⟩ := zbr_t hx r1 r2 (key.2 hq) hL
    exact h2 Ch cA D ad0 A MC MS p l e s m args below meth c ls _ H locs cells slots L' _ h Cx g1 ⟨ws, hHp, hpre, hP, hD, hS, g2, hst2, hcb, hsb⟩
theorem sm_if0S [G : zGh] {t rl rh sl sh : Nat → Nat → Nat} {q : Int32 → Int32 → Prop} {tgf : Nat} (ht : zT3 t q) (hr : zRB q rl rh) (hs : zRB (fun x y => ¬ q x y) sl sh) (row : ∀ {p : Program} {l : Launch} {e : Env} {R : Room} {s : State} {m : MethodId} {args : Array Value} {below : List Frame} {meth : Method} {c : Code} {H : Heap} {locs : List Loc} {cells slots : Nat} {Q : State → Prop} {ls : Array Slot} {rest : List Value} {x : Int32}, p.tables.exec = Jvm.exec → c.code = X.2.1 → (q x 0 → W p l e R s m args below meth c H locs cells slots Q (F0 m tgt ls rest)) → (¬ q x 0 → W p l e R s m args below meth c H locs cells slots Q (F0 m tgf ls rest)) → W p l e R s m args below meth c H locs cells slots Q (F0 m pc ls (.int x :: rest)))
    (h1 : zSim X fr P tgt kt) (h2 : zSim X fr P tgf kf) : zSim X fr P pc (xif0S t rl rh sl sh kt kf) := by
  intro Ch cA D ad0 A MC MS p l e s m args below meth c ls st H locs cells slots L S h Cx hk R0
  obtain ⟨ws, hHp, hpre, hP, hD, hS, hL, hst, hcb, hsb⟩ := R0
  obtain ⟨a, S, rfl, hk2⟩ := zpI_t hk
  obtain ⟨x, st, rfl, hx, hst2⟩ := zRepL_I hst
  have hy : zIs 0 (0 : Int32) := zIs_e zi_z
  have key : (q x 0 → zbr a (rl a 0) (rh a 0) kt L S h = true) ∧ (¬ q x 0 → zbr a (sl a 0) (sh a 0) kf L S h = true) := by
    rcases zT3_t hk2 with ⟨e0, g⟩ | ⟨e1, g⟩ | g
    · exact ⟨fun z => absurd z ((ht hx hy).2 e0), fun _ => g⟩
    · exact ⟨fun _ => g, fun z => absurd ((ht hx hy).1 e1) z⟩
    · rw [Bool.and_eq_true] at g
      exact ⟨fun _ => g.1, fun _ => g.2⟩
  refine row Cx.1 Cx.2.1 (fun hq => ?_) (fun hq => ?_)
  · obtain ⟨r1, r2⟩ := hr hx hy hq
    obtain ⟨L', g1, g2⟩ := zbr_t hx r1 r2 (key.1 hq) hL
    exact h1 Ch cA D ad0 A MC MS p l e s m args below meth c ls _ H locs cells slots L' _ h Cx g1 ⟨ws, hHp, hpre, hP, hD, hS, g2, hst2, hcb, hsb⟩
  · obtain ⟨r1, r2⟩ := hs hx hy hq
    obtain ⟨L', g1, g2⟩ := zbr_t hx r1 r2 (key.2 hq) hL
    exact h2 Ch cA D ad0 A MC MS p l e s m args below meth c ls _ H locs cells slots L' _ h Cx g1 ⟨ws, hHp, hpre, hP, hD, hS, g2, hst2, hcb, hsb⟩
theorem sm_icmpS_ge [G : zGh] (dg : decode X.2.1 pc = .ok (.if_icmp .ge off, 3)) (ht : (pc : Int) + off = (tgt : Int)) (h1 : zSim X fr P tgt kt) (h2 : zSim X fr P (pc + 3) kf) : zSim X fr P pc (xcmpS tgeR rlGe rhS rlS rhLt kt kf) := sm_cmpS tgeR_ok rb_ge rb_lt (fun hx hb a b => lv_icmp_ge hx hb dg ht a b) h1 h2
theorem sm_icmpS_lt [G : zGh] (dg : decode X.2.1 pc = .ok (.if_icmp .lt off, 3)) (ht : (pc : Int) + off = (tgt : Int)) (h1 : zSim X fr P tgt kt) (h2 : zSim X fr P (pc + 3) kf) : zSim X fr P pc (xcmpS tgeR rlGe rhS rlS rhLt kf kt) := sm_cmpS tgeR_ok rb_ge rb_lt (fun hx hb a b => lv_icmp_lt hx hb dg ht (fun q => b (Int32.not_le.mpr q)) (fun q => a (Int32.not_lt.mp q))) h2 h1
theorem sm_icmpS_gt [G : zGh] (dg : decode X.2.1 pc = .ok (.if_icmp .gt off, 3)) (ht : (pc : Int) + off = (tgt : Int)) (h1 : zSim X fr P tgt kt) (h2 : zSim X fr P (pc + 3) kf) : zSim X fr P pc (xcmpS tleR rlS rhLe rlGt rhS kf kt) := sm_cmpS tleR_ok rb_le rb_gt (fun hx hb a b => lv_icmp_gt hx hb dg ht (fun q => b (Int32.not_le.mpr q)) (fun q => a (Int32.not_lt.mp q))) h2 h1
theorem sm_icmpS_le [G : zGh] (dg : decode X.2.1 pc = .ok (.if_icmp .le off, 3)) (ht : (pc : Int) + off = (tgt : Int)) (h1 : zSim X fr P tgt kt) (h2 : zSim X fr P (pc + 3) kf) : zSim X fr P pc (xcmpS tleR rlS rhLe rlGt rhS kt kf) := sm_cmpS tleR_ok rb_le rb_gt (fun hx hb a b => lv_icmp_le hx hb dg ht a b) h1 h2
theorem sm_icmpS_eq [G : zGh] (dg : decode X.2.1 pc = .ok (.if_icmp .eq off, 3)) (ht : (pc : Int) + off = (tgt : Int)) (h1 : zSim X fr P tgt kt) (h2 : zSim X fr P (pc + 3) kf) : zSim X fr P pc (xcmpS teqR rlEq rhEq rlNe rhNe kt kf) := sm_cmpS teqR_ok rb_eq rb_ne (fun hx hb a b => lv_icmp_eq hx hb dg ht a b) h1 h2
theorem sm_icmpS_ne [G : zGh] (dg : decode X.2.1 pc = .ok (.if_icmp .ne off, 3)) (ht : (pc : Int) + off = (tgt : Int)) (h1 : zSim X fr P tgt kt) (h2 : zSim X fr P (pc + 3) kf) : zSim X fr P pc (xcmpS teqR rlEq rhEq rlNe rhNe kf kt) := sm_cmpS teqR_ok rb_eq rb_ne (fun hx hb a b => lv_icmp_ne hx hb dg ht b (fun q => a q)) h2 h1
theorem sm_ifS_ge [G : zGh] (dg : decode X.2.1 pc = .ok (.ifCond .ge off, 3)) (ht : (pc : Int) + off = (tgt : Int)) (h1 : zSim X fr P tgt kt) (h2 : zSim X fr P (pc + 3) kf) : zSim X fr P pc (xif0S tgeR rlGe rhS rlS rhLt kt kf) := sm_if0S tgeR_ok rb_ge rb_lt (fun hx hb a b => lv_if_ge hx hb dg ht (fun q => a q) (fun q => b q)) h1 h2
theorem sm_ifS_lt [G : zGh] (dg : decode X.2.1 pc = .ok (.ifCond .lt off, 3)) (ht : (pc : Int) + off = (tgt : Int)) (h1 : zSim X fr P tgt kt) (h2 : zSim X fr P (pc + 3) kf) : zSim X fr P pc (xif0S tgeR rlGe rhS rlS rhLt kf kt) := sm_if0S tgeR_ok rb_ge rb_lt (fun hx hb a b => lv_if_lt hx hb dg ht (fun q => b (Int32.not_le.mpr q)) (fun q => a (Int32.not_lt.mp q))) h2 h1
theorem sm_ifS_le [G : zGh] (dg : decode X.2.1 pc = .ok (.ifCond .le off, 3)) (ht : (pc : Int) + off = (tgt : Int)) (h1 : zSim X fr P tgt kt) (h2 : zSim X fr P (pc + 3) kf) : zSim X fr P pc (xif0S tleR rlS rhLe rlGt rhS kt kf) := sm_if0S tleR_ok rb_le rb_gt (fun hx hb a b => lv_if_le hx hb dg ht a b) h1 h2
theorem sm_ifS_gt [G : zGh] (dg : decode X.2.1 pc = .ok (.ifCond .gt off, 3)) (ht : (pc : Int) + off = (tgt : Int)) (h1 : zSim X fr P tgt kt) (h2 : zSim X fr P (pc + 3) kf) : zSim X fr P pc (xif0S tleR rlS rhLe rlGt rhS kf kt) := sm_if0S tleR_ok rb_le rb_gt (fun hx hb a b => lv_if_gt hx hb dg ht (fun q => b (Int32.not_le.mpr q)) (fun q => a (Int32.not_lt.mp q))) h2 h1
theorem sm_ifS_eq [G : zGh] (dg : decode X.2.1 pc = .ok (.ifCond .eq off, 3)) (ht : (pc : Int) + off = (tgt : Int)) (h1 : zSim X fr P tgt kt) (h2 : zSim X fr P (pc + 3) kf) : zSim X fr P pc (xif0S teqR rlEq rhEq rlNe rhNe kt kf) := sm_if0S teqR_ok rb_eq rb_ne (fun hx hb a b => lv_if_eq hx hb dg ht a b) h1 h2
theorem sm_ifS_ne [G : zGh] (dg : decode X.2.1 pc = .ok (.ifCond .ne off, 3)) (ht : (pc : Int) + off = (tgt : Int)) (h1 : zSim X fr P tgt kt) (h2 : zSim X fr P (pc + 3) kf) : zSim X fr P pc (xif0S teqR rlEq rhEq rlNe rhNe kf kt) := sm_if0S teqR_ok rb_eq rb_ne (fun hx hb a b => lv_if_ne hx hb dg ht b (fun q => a q)) h2 h1
end OPS
end
section
/-! weaker states -/
def zsubI (n m : Nat) : Bool := cond (Nat.beq n m) true (cond (Nat.ble 4722366482869645213696 m) false (cond (Nat.ble 4294967296 m) (cond (Nat.ble (zlo m) (zlo n)) (Nat.ble (zhi n) (zhi m)) false) false))
theorem zsubI_ok [zGh] {n m : Nat} {i : Int32} (h : zsubI n m = true) (hi : zIs n i) : zIs m i := by
  unfold zsubI at h
  cases h1 : Nat.beq n m
  · rw [h1, cond_false] at h
    cases h2 : Nat.ble 4722366482869645213696 m
    · rw [h2, cond_false] at h
      cases h3 : Nat.ble 4294967296 m
      · rw [h3] at h; cases h
      · rw [h3, cond_true] at h
        cases h4 : Nat.ble (zlo m) (zlo n)
        · rw [h4] at h; cases h
        · rw [h4, cond_true] at h
          have q2 := zble_f h2
          have q3 := Nat.le_of_ble_eq_true h3
          have q4 := Nat.le_of_ble_eq_true h4
          have q5 := Nat.le_of_ble_eq_true h
          have ln := zlo_ok hi
          have un := zhi_ok hi
          have e1 : zlo m = m / 1099511627776 % 4294967296 := by unfold zlo; rw [h3, cond_true, zmod_n, zdiv_n]
          refine ⟨fun q => absurd q (by omega), fun c1 c2 => ?_, by omega, fun q => absurd q (by omega)⟩
          have e2 : zhi m = m % 1099511627776 - 4294967296 := by
            unfold zhi zhc
            rw [h3, cond_true, zmod_n, zble_lt c1, cond_false, zble_lt c2, cond_false, zsub_n]
          omega
    · rw [h2] at h; cases h
  · rw [← Nat.eq_of_beq_eq_true h1]
    exact hi
def zsubJ (n m : Nat) : Bool := cond (Nat.beq n m) true (Nat.beq m 18446744073709551616)
theorem zsubJ_ok {n m : Nat} {i : Int64} (h : zsubJ n m = true) (hi : zJs n i) : zJs m i := by
  unfold zsubJ at h
  cases h1 : Nat.beq n m
  · rw [h1, cond_false] at h
    rw [Nat.eq_of_beq_eq_true h]
    exact zJs_of (fun q => absurd q (Nat.lt_irrefl _)) (by decide)
  · rw [← Nat.eq_of_beq_eq_true h1]
    exact hi
/-- a value; u: whether what isn't known at all will do -/
noncomputable def zsubV (u : Bool) (v w : zV) : Bool := Sum.rec (motive := fun _ => Bool) (fun m => Sum.rec (motive := fun _ => Bool) (fun n => zsubI n m) (fun _ => false) v) (fun w1 => Sum.rec (motive := fun _ => Bool) (fun r => Sum.rec (motive := fun _ => Bool) (fun _ => false) (fun v1 => Sum.rec (motive := fun _ => Bool) (fun s => Nat.beq s r) (fun _ => false) v1) v) (fun w2 => Sum.rec (motive := fun _ => Bool) (fun m => Sum.rec (motive := fun _ => Bool) (fun _ => false) (fun v1 => Sum.rec (motive := fun _ => Bool) (fun _ => false) (fun v2 => Sum.rec (motive := fun _ => Bool) (fun n => zsubJ n m) (fun _ => false) v2) v1) v) (fun m => cond (Nat.beq m 0) u (Sum.rec (motive := fun _ => Bool) (fun _ => false) (fun v1 => Sum.rec (motive := fun _ => Bool) (fun s => Nat.rec (motive := fun _ => Bool) false (fun s _ => cond (Nat.ble 1152921504606846976 m) false (cond (Nat.ble (Nat.mod m 1048576) s) (Nat.ble (Nat.succ s) (Nat.div m 1048576)) false)) s) (fun v2 => Sum.rec (motive := fun _ => Bool) (fun _ => false) (fun n => Nat.beq n m) v2) v1) v)) w2) w1) w
theorem zsubV_ok [zGh] {u : Bool} {ad : zA} {v w : zV} {x : Value} (h : zsubV u v w = true) (hv : zRep ad v x) : (u = true ∧ w = zU) ∨ zRep ad w x := by
  match w, h with
  | .inl m, h =>
    match v, h, hv with
    | .inl n, h, ⟨i, h1, h2⟩ => exact Or.inr ⟨i, h1, zsubI_ok h h2⟩
  | .inr (.inl r), h =>
    match v, h, hv with
    | .inr (.inl s), h, hv =>
      have e : s = r := Nat.eq_of_beq_eq_true h
      subst e
      exact Or.inr hv
  | .inr (.inr (.inl m)), h =>
    match v, h, hv with
    | .inr (.inr (.inl n)), h, ⟨i, h1, h2⟩ => exact Or.inr ⟨i, h1, zsubJ_ok h h2⟩
  | .inr (.inr (.inr 0)), h => exact Or.inl ⟨h, rfl⟩
  | .inr (.inr (.inr (m + 1))), h =>
    match v, h, hv with
    | .inr (.inl (s + 1)), h, ⟨o, h1, h2⟩ =>
      have h : cond (Nat.ble 1152921504606846976 (m + 1)) false (cond (Nat.ble (Nat.mod (m + 1) 1048576) s) (Nat.ble (Nat.succ s) (Nat.div (m + 1) 1048576)) false) = true := h
      cases hb0 : Nat.ble 1152921504606846976 (m + 1)
      · rw [hb0, cond_false] at h
        cases hb : Nat.ble (Nat.mod (m + 1) 1048576) s
        · rw [hb] at h; cases h
        rw [hb, cond_true] at h
        rcases h2 with ⟨q, -⟩ | ⟨k, a, q1, q2, q3⟩
        · cases q
        · cases q1
          subst q3
          exact Or.inr (Or.inl ⟨zble_f hb0, s, a, Nat.le_of_ble_eq_true hb, Nat.le_of_ble_eq_true h, q2, h1⟩)
      · rw [hb0] at h; cases h
    | .inr (.inr (.inr n)), h, hv =>
      have e : n = m + 1 := Nat.eq_of_beq_eq_true h
      subst e
      exact Or.inr hv
noncomputable def zsubL (u : Bool) : List zV → List zV → Bool := List.rec (motive := fun _ => List zV → Bool) (fun B => List.rec (motive := fun _ => Bool) true (fun _ _ _ => false) B) (fun v _ r B => List.rec (motive := fun _ => Bool) false (fun w t _ => cond (zsubV u v w) (r t) false) B)
theorem zsubL_S [zGh] {ad : zA} : ∀ {S S' : List zV} {st : List Value}, zsubL false S S' = true → zRepL ad S st → zRepL ad S' st
  | [], [], st, _, h => h
  | [], _ :: _, st, h, _ => by cases h
  | _ :: _, [], st, h, _ => by cases h
  | v :: S, w :: S', [], h, hr => by cases hr
  | v :: S, w :: S', x :: st, h, hr => by
    have h : cond (zsubV false v w) (zsubL false S S') false = true := h
    cases hb : zsubV false v w
    · rw [hb] at h; cases h
    · rw [hb, cond_true] at h
      rcases zsubV_ok hb hr.1 with ⟨q, -⟩ | q
      · cases q
      · exact ⟨q, zsubL_S h hr.2⟩
theorem zsubL_t : ∀ {L L' : List zV}, zsubL true L L' = true → L'.length = L.length ∧ ∀ (i : Nat) (w : zV), L'[i]? = some w → ∃ v, L[i]? = some v ∧ zsubV true v w = true
  | [], [], _ => ⟨rfl, fun i w q => by simp at q⟩
  | [], _ :: _, h => by cases h
  | _ :: _, [], h => by cases h
  | v :: L, w :: L', h => by
    have h : cond (zsubV true v w) (zsubL true L L') false = true := h
    cases hb : zsubV true v w
    · rw [hb] at h; cases h
    · rw [hb, cond_true] at h
      obtain ⟨h1, h2⟩ := zsubL_t h
      refine ⟨by simp [h1], fun i u q => ?_⟩
      cases i with
      | zero =>
        have q : w = u := by simpa using q
        subst q
        exact ⟨v, rfl, hb⟩
      | succ i =>
        obtain ⟨z, z1, z2⟩ := h2 i u (by simpa using q)
        exact ⟨z, by simpa using z1, z2⟩
theorem zsubV_U : ∀ {w : zV}, zsubV true zU w = true → w = zU
  | .inr (.inr (.inr 0)), _ => rfl
  | .inr (.inr (.inr (m + 1))), h => by
    have e : 0 = m + 1 := Nat.eq_of_beq_eq_true h
    cases e
theorem zsubL_L [zGh] {ad : zA} {nL : Nat} {L L' : List zV} {ls : Array Slot} (h : zsubL true L L' = true) (hL : zLoc ad nL L ls) : zLoc ad nL L' ls := by
  obtain ⟨a1, lv, a2, a3⟩ := hL
  obtain ⟨h1, h2⟩ := zsubL_t h
  refine ⟨by rw [h1]; exact a1, lv, a2, fun i w hw => ?_⟩
  obtain ⟨v, hv, hs⟩ := h2 i w hw
  rcases a3 i v hv with rfl | ⟨x, hx, hr⟩
  · exact Or.inl (zsubV_U hs)
  · rcases zsubV_ok hs hr with ⟨-, q⟩ | q
    · exact Or.inl q
    · exact Or.inr ⟨x, hx, q⟩
/-- all words alike -/
def zun (b len w : Nat) : Nat := Nat.mul w (Nat.div (Nat.sub (Nat.pow 2 (Nat.mul b len)) 1) (Nat.sub (Nat.pow 2 b) 1))
def zrp (B : Nat) : Nat → Nat
  | 0 => 0
  | n + 1 => B * zrp B n + 1
theorem zrp_mul (B : Nat) (hB : 2 ≤ B) : ∀ n, (B - 1) * zrp B n + 1 = B ^ n
  | 0 => by simp [zrp]
  | n + 1 => by
    have ih := zrp_mul B hB n
    show (B - 1) * (B * zrp B n + 1) + 1 = B ^ (n + 1)
    rw [Nat.pow_succ, ← ih]
    obtain ⟨c, rfl⟩ : ∃ c, B = c + 1 := ⟨B - 1, by omega⟩
    show c * ((c + 1) * zrp (c + 1) n + 1) + 1 = (c * zrp (c + 1) n + 1) * (c + 1)
    have e : c * ((c + 1) * zrp (c + 1) n) = c * zrp (c + 1) n * (c + 1) := by rw [Nat.mul_comm (c + 1) (zrp (c + 1) n), Nat.mul_assoc]
    rw [Nat.mul_add, e, Nat.mul_one, Nat.add_mul, Nat.one_mul]
    omega
theorem zrp_div (B : Nat) (hB : 2 ≤ B) (n : Nat) : (B ^ n - 1) / (B - 1) = zrp B n := by
  have h := zrp_mul B hB n
  have : B ^ n - 1 = (B - 1) * zrp B n := by omega
  rw [this, Nat.mul_div_cancel_left _ (by omega)]
theorem zrp_split (B : Nat) : ∀ (j m : Nat), zrp B (j + m) = B ^ j * zrp B m + zrp B j
  | 0, m => by simp [zrp]
  | j + 1, m => by
    have ih := zrp_split B j m
    show zrp B (j + 1 + m) = B ^ (j + 1) * zrp B m + (B * zrp B j + 1)
    rw [show j + 1 + m = (j + m) + 1 by omega]
    show B * zrp B (j + m) + 1 = _
    rw [ih, Nat.mul_add, Nat.pow_succ, ← Nat.mul_assoc, Nat.mul_comm B (B ^ j)]
    omega
theorem zun_wd (b len w j : Nat) (hb : 1 ≤ b) (hw : w < 2 ^ b) (hj : j < len) : zwd b (zun b len w) j = w := by
  have hB : 2 ≤ 2 ^ b := by
    have := Nat.pow_le_pow_right (show 1 ≤ 2 by decide) hb
    simpa using this
  have e0 : zun b len w = w * zrp (2 ^ b) len := by
    show w * ((2 ^ (b * len) - 1) / (2 ^ b - 1)) = _
    rw [Nat.pow_mul, zrp_div _ hB]
  unfold zwd
  show (zun b len w >>> (b * j)) % 2 ^ b = w
  rw [e0, Nat.shiftRight_eq_div_pow, Nat.pow_mul]
  obtain ⟨m, rfl⟩ : ∃ m, len = j + (m + 1) := ⟨len - j - 1, by omega⟩
  generalize 2 ^ b = B at *
  rw [zrp_split]
  have hlt : w * zrp B j < B ^ j := by
    have h1 := zrp_mul B hB j
    have h2 : w * zrp B j ≤ (B - 1) * zrp B j := Nat.mul_le_mul_right _ (by omega)
    omega
  have hpos : 0 < B ^ j := Nat.lt_of_le_of_lt (Nat.zero_le _) hlt
  rw [Nat.mul_add, ← Nat.mul_assoc, Nat.mul_comm w (B ^ j), Nat.mul_assoc, Nat.mul_add_div hpos, Nat.div_eq_of_lt hlt, Nat.add_zero]
  show w * (B * zrp B m + 1) % B = w
  rw [Nat.mul_add, Nat.mul_one, ← Nat.mul_assoc, Nat.mul_comm w B, Nat.mul_assoc, Nat.mul_add_mod]
  exact Nat.mod_eq_of_lt hw
theorem zAI_un (len : Nat) (f : Nat → Int32) : zAI len (zun 40 len 4294967296) f := by
  intro j hj
  rw [zun_wd 40 len 4294967296 j (by decide) (by decide) hj]
  exact ⟨fun q => absurd q (Nat.lt_irrefl _), fun q => absurd q (Nat.lt_irrefl _)⟩
theorem zAJ_un (len : Nat) (f : Nat → Int64) : zAJ len (zun 72 len 18446744073709551616) f := by
  intro j hj
  rw [zun_wd 72 len 18446744073709551616 j (by decide) (by decide) hj]
  exact ⟨fun q => absurd q (Nat.lt_irrefl _), fun q => absurd q (by decide)⟩
/-- all words below a number -/
noncomputable def zall (n : Nat) (p : Nat → Bool) : Bool := Nat.rec (motive := fun _ => Bool) true (fun m r => cond (p m) r false) n
theorem zall_t {p : Nat → Bool} : ∀ {n : Nat}, zall n p = true → ∀ j, j < n → p j = true
  | 0, _, j, hj => absurd hj (Nat.not_lt_zero j)
  | n + 1, h, j, hj => by
    have h : cond (p n) (zall n p) false = true := h
    cases hb : p n
    · rw [hb] at h; cases h
    · rw [hb, cond_true] at h
      rcases Nat.lt_succ_iff_lt_or_eq.mp hj with q | rfl
      · exact zall_t h j q
      · exact hb
theorem zsubI_a {n m : Nat} {i : Int32} (hn : n < 1099511627776) (hm : m < 1099511627776) (h : zsubI n m = true) (hi : zIa n i) : zIa m i := by
  have this := @zsubI_ok ⟨(fun _ => 0 : Nat → Nat)⟩ n m i h (@zIs_a ⟨(fun _ => 0 : Nat → Nat)⟩ n i hi hn)
  exact ⟨this.1, fun q1 q2 => by have z := this.2.1; rw [Nat.mod_eq_of_lt hm] at z; exact z q1 q2⟩
/-- words all alike on both sides, or each below the other's -/
noncomputable def zsubA (len x y : Nat) : Bool := cond (Nat.beq y (zun 40 len 4294967296)) true (cond (Nat.beq x (zun 40 len (zwd 40 x 0))) (cond (Nat.beq y (zun 40 len (zwd 40 y 0))) (zsubI (zwd 40 x 0) (zwd 40 y 0)) (zall len (fun j => zsubI (zwd 40 x j) (zwd 40 y j)))) (zall len (fun j => zsubI (zwd 40 x j) (zwd 40 y j))))
theorem zsubA_ok {len x y : Nat} {f : Nat → Int32} (h : zsubA len x y = true) (hf : zAI len x f) : zAI len y f := by
  unfold zsubA at h
  have far : zall len (fun j => zsubI (zwd 40 x j) (zwd 40 y j)) = true → zAI len y f := fun h j hj => zsubI_a (zwd_lt _ _ _) (zwd_lt _ _ _) (zall_t h j hj) (hf j hj)
  cases h1 : Nat.beq y (zun 40 len 4294967296)
  · rw [h1, cond_false] at h
    cases h2 : Nat.beq x (zun 40 len (zwd 40 x 0))
    · rw [h2, cond_false] at h
      exact far h
    · rw [h2, cond_true] at h
      cases h3 : Nat.beq y (zun 40 len (zwd 40 y 0))
      · rw [h3, cond_false] at h
        exact far h
      · rw [h3, cond_true] at h
        intro j hj
        have e1 : zwd 40 x j = zwd 40 x 0 := by
          have := congrArg (fun z => zwd 40 z j) (Nat.eq_of_beq_eq_true h2)
          exact this.trans (zun_wd 40 len _ j (by decide) (zwd_lt _ _ _) hj)
        have e2 : zwd 40 y j = zwd 40 y 0 := by
          have := congrArg (fun z => zwd 40 z j) (Nat.eq_of_beq_eq_true h3)
          exact this.trans (zun_wd 40 len _ j (by decide) (zwd_lt _ _ _) hj)
        have := hf j hj
        rw [e1] at this
        rw [e2]
        exact zsubI_a (zwd_lt _ _ _) (zwd_lt _ _ _) h this
  · rw [Nat.eq_of_beq_eq_true h1]
    exact zAI_un len f
/-- words of a place on the tape -/
def zrgn (x : Nat) : Bool := cond (Nat.ble 274877906944 x) (Nat.ble x 549755813887) false
def zsubG (x y : Nat) : Bool := cond (Nat.beq x 274877906945) (Nat.beq y 274877906944) false
noncomputable def zsubW (kd x y j : Nat) : Bool := cond (Nat.beq (zwd 40 x j) (zwd 40 y j)) true (cond (zisR (zfty (Nat.sub kd 16) j)) false (cond (Nat.ble 274877906944 (zwd 40 y j)) (zsubG (zwd 40 x j) (zwd 40 y j)) (cond (Nat.beq (zwd 40 x j) 549755813888) (cond (Nat.beq (zwd 40 y j) 4294968017) true (Nat.beq (zwd 40 y j) 4294967296)) (cond (zrgn (zwd 40 x j)) (cond (Nat.beq (zwd 40 y j) 4294967497) true (Nat.beq (zwd 40 y j) 4294967296)) (zsubI (zwd 40 x j) (zwd 40 y j))))))
noncomputable def zsubX (kd len x y : Nat) : Bool := cond (Nat.ble kd 1) (zsubA len x y) (cond (Nat.beq kd 2) (Nat.beq y (zun 72 len 18446744073709551616)) (cond (Nat.ble 16 kd) (zall (zN (Nat.sub kd 16)) (zsubW kd x y)) (cond (Nat.beq kd 9) (cond (Nat.beq (Nat.mod x 1048576) (Nat.mod y 1048576)) (Nat.ble (Nat.div y 1048576) (Nat.div x 1048576)) false) false)))
noncomputable def zrin (w y : Nat) : Bool := cond (Nat.ble 1 w) (cond (Nat.ble (Nat.mod y 1048576) (Nat.pred w)) (cond (Nat.ble w (Nat.div y 1048576)) (Nat.ble w 549755813887) false) false) false
noncomputable def zsubM (kd kd0 len x y : Nat) : Bool := cond (Nat.beq kd0 0) (cond (Nat.ble 8 kd) (cond (Nat.ble kd 11) (cond (Nat.beq y (zun 40 len 4294967296)) true (cond (Nat.beq kd 10) (Nat.beq y (zun 40 len 4294968017)) (cond (Nat.beq kd 11) (Nat.beq y (zun 40 len 4295013952)) false))) false) false) (cond (Nat.beq kd0 12) (cond (Nat.beq kd 3) (zall len (fun j => zrin (zwd 40 x j) y)) false) false)
noncomputable def zsubC (c c0 : zC) : Bool := Prod.rec (motive := fun _ => Bool) (fun kd v => Prod.rec (motive := fun _ => Bool) (fun len x => Prod.rec (motive := fun _ => Bool) (fun kd0 v0 => Prod.rec (motive := fun _ => Bool) (fun len0 x0 => cond (Nat.beq len len0) (cond (Nat.beq kd kd0) (cond (Nat.beq x x0) true (zsubX kd len x x0)) (zsubM kd kd0 len x x0)) false) v0) c0) v) c
theorem zsubX_ok [zCh] {cA : Nat → ClassId} {ad : zA} {kd len x y : Nat} {e : va_E} (h : zsubX kd len x y = true) (hc : zCell cA ad (kd, len, x) e) : zCell cA ad (kd, len, y) e := by
  unfold zsubX at h
  cases k1 : Nat.ble kd 1
  · rw [k1, cond_false] at h
    cases k2 : Nat.beq kd 2
    · rw [k2, cond_false] at h
      cases k3 : Nat.ble 16 kd
      · rw [k3, cond_false] at h
        cases k4 : Nat.beq kd 9
        · rw [k4] at h; cases h
        rw [k4, cond_true] at h
        have e9 := Nat.eq_of_beq_eq_true k4
        subst e9
        cases k5 : Nat.beq (Nat.mod x 1048576) (Nat.mod y 1048576)
        · rw [k5] at h; cases h
        rw [k5, cond_true] at h
        have e5 : x % 1048576 = y % 1048576 := Nat.eq_of_beq_eq_true k5
        have e6 : y / 1048576 ≤ x / 1048576 := Nat.le_of_ble_eq_true h
        rcases hc with ⟨g, -⟩ | ⟨g, -⟩ | ⟨g1, g2, g3, ⟨g4, f, g5, g6, g7⟩ | ⟨g4, -⟩⟩ | ⟨-, g, -⟩ | ⟨g, -⟩
        · exact absurd (show 9 < 2 from g) (by decide)
        · exact absurd (show 9 = 2 from g) (by decide)
        · refine Or.inr (Or.inr (Or.inl ⟨g1, g2, g3, Or.inl ⟨g4, f, g5, g6, ?_⟩⟩))
          refine ⟨fun q => absurd (show 9 = 8 from q) (by decide), fun _ c h1 h2 => ?_, fun q => absurd (show 9 = 10 from q) (by decide), fun q => absurd (show 9 = 11 from q) (by decide)⟩
          have g8 := g7.2.1 rfl c
          have h1 : c < zpn (y % 1048576) := h1
          have h2 : zps (y % 1048576) c < y / 1048576 := h2
          show zi (zcF 9 (zi (zcF 8 c))) = zrw (y % 1048576) c
          rw [← e5] at h1 h2 ⊢
          exact g8 h1 (Nat.lt_of_lt_of_le h2 e6)
        · exact absurd (show 9 = 12 from g4) (by decide)
        · exact absurd (show 9 < 8 from g) (by decide)
        · exact absurd (show 16 ≤ 9 from g) (by decide)
      · rw [k3, cond_true] at h
        have q3 := Nat.le_of_ble_eq_true k3
        obtain ⟨fs, rfl, hl, hf⟩ := zCell_obj (ci := kd - 16) hc (by omega)
        have hek : kd = 16 + (kd - 16) := by omega
        have hw := zall_t h
        have : zCell cA ad (16 + (kd - 16), len, y) (.inr (kd - 16, fs)) := zCell_ok hl (fun k v hv => by
          have hk : k < zN (kd - 16) := by rw [← hl]; exact (List.getElem?_eq_some_iff.mp hv).1
          have hwk := hw k hk
          have hfk := hf k v hv
          unfold zsubW at hwk
          cases w1 : Nat.beq (zwd 40 x k) (zwd 40 y k)
          · rw [w1, cond_false] at hwk
            cases w2 : zisR (zfty (kd - 16) k)
            · rw [show zisR (zfty (Nat.sub kd 16) k) = false from w2, cond_false] at hwk
              cases w3 : Nat.ble 274877906944 (zwd 40 y k)
              · rw [w3, cond_false] at hwk
                unfold zFl at hfk ⊢
                rw [w2, cond_false] at hfk ⊢
                obtain ⟨i, g1, g2, -, g4⟩ := hfk
                have w38 := zble_f w3
                have w3' : zwd 40 y k < 549755813888 := Nat.lt_trans w38 (by decide)
                refine ⟨i, g1, ⟨?_, fun q => absurd q (Nat.ne_of_lt w3')⟩, fun q => absurd q (Nat.not_lt.mpr (Nat.le_of_lt w3')), fun q => absurd q (Nat.not_le.mpr w38)⟩
                cases w4 : Nat.beq (zwd 40 x k) 549755813888
                · rw [w4, cond_false] at hwk
                  cases w6 : zrgn (zwd 40 x k)
                  · rw [w6, cond_false] at hwk
                    exact zsubI_a (zwd_lt _ _ _) (zwd_lt _ _ _) hwk g2.1
                  · rw [w6, cond_true] at hwk
                    unfold zrgn at w6
                    cases w7 : Nat.ble 274877906944 (zwd 40 x k)
                    · rw [w7] at w6; cases w6
                    rw [w7, cond_true] at w6
                    have u3 := g4 (Nat.le_of_ble_eq_true w7) (Nat.lt_of_le_of_lt (Nat.le_of_ble_eq_true w6) (by decide))
                    cases w5 : Nat.beq (zwd 40 y k) 4294967497
                    · rw [w5, cond_false] at hwk
                      rw [Nat.eq_of_beq_eq_true hwk]
                      exact ⟨fun q => absurd q (Nat.lt_irrefl _), fun q => absurd q (Nat.lt_irrefl _)⟩
                    · rw [Nat.eq_of_beq_eq_true w5]
                      exact ⟨fun q => absurd q (by decide), fun _ _ => by have := u3.1; omega⟩
                · rw [w4, cond_true] at hwk
                  obtain ⟨u1, u2⟩ := g2.2 (Nat.eq_of_beq_eq_true w4)
                  cases w5 : Nat.beq (zwd 40 y k) 4294968017
                  · rw [w5, cond_false] at hwk
                    rw [Nat.eq_of_beq_eq_true hwk]
                    exact ⟨fun q => absurd q (Nat.lt_irrefl _), fun q => absurd q (Nat.lt_irrefl _)⟩
                  · rw [Nat.eq_of_beq_eq_true w5]
                    exact ⟨fun q => absurd q (by decide), fun _ _ => by omega⟩
              · rw [w3, cond_true] at hwk
                unfold zsubG at hwk
                cases w8 : Nat.beq (zwd 40 x k) 274877906945
                · rw [w8] at hwk; cases hwk
                rw [w8, cond_true] at hwk
                unfold zFl at hfk ⊢
                rw [w2, cond_false] at hfk ⊢
                obtain ⟨i, g1, g2, -, g4⟩ := hfk
                have e8 := Nat.eq_of_beq_eq_true w8
                have e9 := Nat.eq_of_beq_eq_true hwk
                rw [e8] at g4
                obtain ⟨u3, u4, -⟩ := g4 (by decide) (by decide)
                rw [e9]
                have hlt := zi_lt i
                exact ⟨i, g1, ⟨⟨fun q => absurd q (by decide), fun _ _ => by omega⟩, fun q => absurd q (by decide)⟩, fun q => absurd q (by decide), fun _ _ => ⟨u3, fun _ => u4 (by decide), fun q => absurd q (by decide), fun q => absurd q (by decide)⟩⟩
            · rw [show zisR (zfty (Nat.sub kd 16) k) = true from w2] at hwk; cases hwk
          · rw [← Nat.eq_of_beq_eq_true w1]
            exact hfk)
        rw [← hek] at this
        exact this
    · rw [k2, cond_true] at h
      have ek := Nat.eq_of_beq_eq_true k2
      subst ek
      obtain ⟨hl, f, rfl, hf⟩ := zCell_j hc
      rw [Nat.eq_of_beq_eq_true h]
      exact zCell_jk hl (zAJ_un len f)
  · rw [k1, cond_true] at h
    have q1 := Nat.le_of_ble_eq_true k1
    obtain ⟨hl, f, rfl, hf⟩ := zCell_i hc (by omega)
    exact zCell_ik (by omega) hl (zsubA_ok h hf)
theorem zAI_below {len w : Nat} {f : Nat → Int32} (hw : w < 1099511627776) (h1 : 4294967296 < w) (hf : ∀ j, j < len → zi (f j) < w - 4294967296) : zAI len (zun 40 len w) f := by
  intro j hj
  rw [zun_wd 40 len w j (by decide) hw hj]
  exact ⟨fun q => absurd q (by omega), fun _ _ => hf j hj⟩
theorem zCell_mk [zCh] {cA : Nat → ClassId} {ad : zA} {kd len x : Nat} {e : va_E} (hc : zCell cA ad (kd, len, x) e) (h8 : 8 ≤ kd) (h11 : kd ≤ 11) : len < 2147483648 ∧ ∃ f : Nat → Int32, e = .inl (cA 0, len, .inl f) ∧ zCK kd len x f := by
  rcases hc with ⟨g, -⟩ | ⟨g, -⟩ | ⟨g1, g2, g3, ⟨g4, f, g5, g6⟩ | ⟨g4, -⟩⟩ | ⟨-, g, -⟩ | ⟨g, -⟩
  · exact absurd (show kd < 2 from g) (by omega)
  · exact absurd (show kd = 2 from g) (by omega)
  · exact ⟨g3, f, g5, g6⟩
  · exact absurd (show kd = 12 from g4) (by omega)
  · exact absurd (show kd < 8 from g) (by omega)
  · exact absurd (show 16 ≤ kd from g) (by omega)
theorem zsubM_ok [zCh] {cA : Nat → ClassId} {ad : zA} {kd kd0 len x y : Nat} {e : va_E} (h : zsubM kd kd0 len x y = true) (hc : zCell cA ad (kd, len, x) e) : zCell cA ad (kd0, len, y) e := by
  unfold zsubM at h
  cases k0 : Nat.beq kd0 0
  · rw [k0, cond_false] at h
    cases k1 : Nat.beq kd0 12
    · rw [k1] at h; cases h
    cases k2 : Nat.beq kd 3
    · rw [k1, k2] at h; cases h
    rw [k1, k2, cond_true, cond_true] at h
    have e1 := Nat.eq_of_beq_eq_true k1
    have e2 := Nat.eq_of_beq_eq_true k2
    subst e1
    subst e2
    obtain ⟨hl, f, rfl, hf⟩ := zCell_r hc (by decide) (by decide)
    refine Or.inr (Or.inr (Or.inl ⟨(by decide : 8 ≤ 12), (by decide : 12 < 16), hl, Or.inr ⟨rfl, f, rfl, fun j hj => ?_⟩⟩))
    have hw := zall_t h j hj
    unfold zrin at hw
    cases w1 : Nat.ble 1 (zwd 40 x j)
    · rw [w1] at hw; cases hw
    cases w2 : Nat.ble (Nat.mod y 1048576) (Nat.pred (zwd 40 x j))
    · rw [w1, w2] at hw; cases hw
    cases w3 : Nat.ble (zwd 40 x j) (Nat.div y 1048576)
    · rw [w1, w2, w3] at hw; cases hw
    rw [w1, w2, w3, cond_true, cond_true, cond_true] at hw
    have v1 := Nat.le_of_ble_eq_true w1
    have v2 : y % 1048576 ≤ zwd 40 x j - 1 := Nat.le_of_ble_eq_true w2
    have v3 : zwd 40 x j ≤ y / 1048576 := Nat.le_of_ble_eq_true w3
    have v4 := Nat.le_of_ble_eq_true hw
    rcases hf j hj with ⟨-, ⟨z, -⟩ | ⟨k, a, z1, z2, z3⟩⟩ | ⟨z, -⟩
    · omega
    · exact ⟨k, a, by show y % 1048576 ≤ k; omega, by show k < y / 1048576; omega, z2, z3⟩
    · omega
  · rw [k0, cond_true] at h
    have e0 := Nat.eq_of_beq_eq_true k0
    subst e0
    cases k1 : Nat.ble 8 kd
    · rw [k1] at h; cases h
    cases k2 : Nat.ble kd 11
    · rw [k1, k2] at h; cases h
    rw [k1, k2, cond_true, cond_true] at h
    obtain ⟨hl, f, rfl, g1, g2⟩ := zCell_mk hc (Nat.le_of_ble_eq_true k1) (Nat.le_of_ble_eq_true k2)
    refine zCell_ik (by decide) hl ?_
    cases k3 : Nat.beq y (zun 40 len 4294967296)
    · rw [k3, cond_false] at h
      cases k4 : Nat.beq kd 10
      · rw [k4, cond_false] at h
        cases k5 : Nat.beq kd 11
        · rw [k5] at h; cases h
        rw [k5, cond_true] at h
        have e5 := Nat.eq_of_beq_eq_true k5
        subst e5
        rw [Nat.eq_of_beq_eq_true h]
        exact zAI_below (by decide) (by decide) (fun j hj => by rw [g1]; exact (g2.2.2.2 rfl).1 j hj)
      · rw [k4, cond_true] at h
        have e4 := Nat.eq_of_beq_eq_true k4
        subst e4
        rw [Nat.eq_of_beq_eq_true h]
        exact zAI_below (by decide) (by decide) (fun j hj => by rw [g1]; have := g2.2.2.1 rfl j hj; omega)
    · rw [Nat.eq_of_beq_eq_true k3]
      exact zAI_un len f
theorem zsubC_ok [zCh] {cA : Nat → ClassId} {ad : zA} {c c0 : zC} {e : va_E} (h : zsubC c c0 = true) (hc : zCell cA ad c e) : zCell cA ad c0 e := by
  obtain ⟨kd, len, x⟩ := c
  obtain ⟨kd0, len0, x0⟩ := c0
  replace h : cond (Nat.beq len len0) (cond (Nat.beq kd kd0) (cond (Nat.beq x x0) true (zsubX kd len x x0)) (zsubM kd kd0 len x x0)) false = true := h
  cases h2 : Nat.beq len len0
  · rw [h2] at h; cases h
  rw [h2, cond_true] at h
  have e2 := Nat.eq_of_beq_eq_true h2
  subst e2
  cases h1 : Nat.beq kd kd0
  · rw [h1, cond_false] at h
    exact zsubM_ok h hc
  · rw [h1, cond_true] at h
    have e1 := Nat.eq_of_beq_eq_true h1
    subst e1
    cases h3 : Nat.beq x x0
    · rw [h3, cond_false] at h
      exact zsubX_ok h hc
    · rw [← Nat.eq_of_beq_eq_true h3]
      exact hc
noncomputable def zsubT (d : Nat) : zT d → zT d → Bool := Nat.rec (motive := fun d => zT d → zT d → Bool) (fun c c0 => zsubC c c0) (fun d r t t0 => Prod.rec (motive := fun _ => Bool) (fun (a b : zT d) => Prod.rec (motive := fun _ => Bool) (fun (a0 b0 : zT d) => cond (r a a0) (r b b0) false) (show zT d × zT d from t0)) (show zT d × zT d from t)) d
theorem zsubT_t (d : Nat) : ∀ (t t0 : zT d), zsubT d t t0 = true → ∀ i, i < 2 ^ d → zsubC (zget d t i) (zget d t0 i) = true := by
  induction d with
  | zero => intro t t0 h i hi; exact h
  | succ d ih =>
    have key : ∀ (t t0 : zT d × zT d), zsubT (d + 1) t t0 = true → ∀ i, i < 2 ^ (d + 1) → zsubC (zget (d + 1) t i) (zget (d + 1) t0 i) = true := by
      intro t t0 h i hi
      obtain ⟨a, b⟩ := t
      obtain ⟨a0, b0⟩ := t0
      have h : cond (zsubT d a a0) (zsubT d b b0) false = true := h
      have h2 : i < 2 ^ d + 2 ^ d := by rw [Nat.pow_succ] at hi; omega
      cases hb : zsubT d a a0
      · rw [hb] at h; cases h
      · rw [hb, cond_true] at h
        show zsubC (cond (Nat.ble (Nat.pow 2 d) i) (zget d b (Nat.sub i (Nat.pow 2 d))) (zget d a i)) (cond (Nat.ble (Nat.pow 2 d) i) (zget d b0 (Nat.sub i (Nat.pow 2 d))) (zget d a0 i)) = true
        cases hc : Nat.ble (Nat.pow 2 d) i
        · exact ih a a0 hb i (zble_f hc)
        · have : 2 ^ d ≤ i := Nat.le_of_ble_eq_true hc
          exact ih b b0 h (i - 2 ^ d) (by omega)
    intro t t0
    exact key t t0
noncomputable def zsubH {d : Nat} (h h0 : zH d) : Bool := Prod.rec (motive := fun _ => Bool) (fun t u => Prod.rec (motive := fun _ => Bool) (fun n w => Prod.rec (motive := fun _ => Bool) (fun bc bs => Prod.rec (motive := fun _ => Bool) (fun t0 u0 => Prod.rec (motive := fun _ => Bool) (fun n0 w0 => Prod.rec (motive := fun _ => Bool) (fun bc0 bs0 => cond (Nat.beq n n0) (cond (Nat.ble bc0 bc) (cond (Nat.ble bs0 bs) (zsubT d t t0) false) false) false) w0) u0) h0) w) u) h
theorem zsubH_t {d : Nat} {h h0 : zH d} (q : zsubH h h0 = true) : h.2.1 = h0.2.1 ∧ h0.2.2.1 ≤ h.2.2.1 ∧ h0.2.2.2 ≤ h.2.2.2 ∧ zsubT d h.1 h0.1 = true := by
  obtain ⟨t, n, bc, bs⟩ := h
  obtain ⟨t0, n0, bc0, bs0⟩ := h0
  have q : cond (Nat.beq n n0) (cond (Nat.ble bc0 bc) (cond (Nat.ble bs0 bs) (zsubT d t t0) false) false) false = true := q
  cases h1 : Nat.beq n n0
  · rw [h1] at q; cases q
  cases h2 : Nat.ble bc0 bc
  · rw [h1, h2] at q; cases q
  cases h3 : Nat.ble bs0 bs
  · rw [h1, h2, h3] at q; cases q
  rw [h1, h2, h3, cond_true, cond_true, cond_true] at q
  exact ⟨Nat.eq_of_beq_eq_true h1, Nat.le_of_ble_eq_true h2, Nat.le_of_ble_eq_true h3, q⟩
theorem zsubH_ok [zCh] {d : Nat} {cA : Nat → ClassId} {h h0 : zH d} {ws : va_W} (q : zsubH h h0 = true) (hH : zHp cA h ws) : zHp cA h0 ws := by
  obtain ⟨q1, -, -, q4⟩ := zsubH_t q
  refine ⟨by rw [← q1]; exact hH.1, by rw [← q1]; exact hH.2.1, fun i x hi => ?_⟩
  have hlt : i < 2 ^ d := Nat.lt_of_lt_of_le (by rw [← hH.1]; exact (List.getElem?_eq_some_iff.mp hi).1) hH.2.1
  exact zsubC_ok (zsubT_t d _ _ q4 i hlt) (hH.2.2 i x hi)
section OPS
variable {d : Nat} {X : zM} {fr : Nat} {P : zP d} {pc : Nat} {k : zK d}
/-- a state that is known to go well -/
noncomputable def xchk (L0 S0 : List zV) (h0 : zH d) : zK d := fun L S h => cond (zsubL true L L0) (cond (zsubL false S S0) (zsubH h h0) false) false
theorem sm_chk [G : zGh] {L0 S0 : List zV} {h0 : zH d} (hs : zSim X fr P pc k) (hk0 : k L0 S0 h0 = true) : zSim X fr P pc (xchk L0 S0 h0) := by
  intro Ch cA D ad0 A MC MS p l e s m args below meth c ls st H locs cells slots L S h Cx hk R0
  obtain ⟨ws, hHp, hpre, hP, hD, hS, hL, hst, hcb, hsb⟩ := R0
  have hk : cond (zsubL true L L0) (cond (zsubL false S S0) (zsubH h h0) false) false = true := hk
  cases h1 : zsubL true L L0
  · rw [h1] at hk; cases hk
  cases h2 : zsubL false S S0
  · rw [h1, h2] at hk; cases hk
  rw [h1, h2, cond_true, cond_true] at hk
  obtain ⟨-, g2, g3, -⟩ := zsubH_t hk
  exact hs Ch cA D ad0 A MC MS p l e s m args below meth c ls st H locs cells slots L0 S0 h0 Cx hk0 ⟨ws, zsubH_ok hk hHp, hpre, hP, hD, hS, zsubL_L h1 hL, zsubL_S h2 hst, by omega, by omega⟩
end OPS
end
section
/-! loops with a symbol, joins, weaker states -/
def zgu (G : zGh) (j v : Nat) : zGh := ⟨(fun i => if i = j then v else @zg G i : Nat → Nat)⟩
theorem zgu_same (G : zGh) (j v : Nat) : @zg (zgu G j v) j = v := if_pos rfl
theorem zgu_ne (G : zGh) {i j : Nat} (v : Nat) (h : i ≠ j) : @zg (zgu G j v) i = @zg G i := if_neg h
theorem zIs_G {G G' : zGh} {n j : Nat} {i : Int32} (hG : ∀ m, m < j → @zg G' m = @zg G m) (hn : n < 4722366482869645213696 ∨ n / 4722366482869645213696 % 65536 < j) (h : @zIs G n i) : @zIs G' n i := by
  refine ⟨h.1, h.2.1, h.2.2.1, fun q => ?_⟩
  rcases hn with hn | hn
  · exact absurd q (Nat.not_le.mpr hn)
  · rw [hG _ hn]
    exact h.2.2.2 q
/-- no symbol from j on -/
noncomputable def zsf (j : Nat) (v : zV) : Bool := Sum.rec (motive := fun _ => Bool) (fun n => cond (Nat.ble 4722366482869645213696 n) (Nat.ble (Nat.succ (Nat.mod (Nat.div n 4722366482869645213696) 65536)) j) true) (fun _ => true) v
theorem zRep_G {G G' : zGh} {ad : zA} {v : zV} {x : Value} {j : Nat} (hG : ∀ m, m < j → @zg G' m = @zg G m) (hv : zsf j v = true) (h : @zRep G ad v x) : @zRep G' ad v x := by
  match v, hv, h with
  | .inl n, hv, ⟨i, h1, h2⟩ =>
    refine ⟨i, h1, zIs_G hG ?_ h2⟩
    have hv : cond (Nat.ble 4722366482869645213696 n) (Nat.ble (Nat.succ (Nat.mod (Nat.div n 4722366482869645213696) 65536)) j) true = true := hv
    cases hb : Nat.ble 4722366482869645213696 n
    · exact Or.inl (zble_f hb)
    · rw [hb, cond_true] at hv
      exact Or.inr (Nat.le_of_ble_eq_true hv)
  | .inr (.inl r), _, h => exact h
  | .inr (.inr (.inl n)), _, h => exact h
  | .inr (.inr (.inr n)), _, h => exact h
noncomputable def zsfL (j : Nat) (L : List zV) : Bool := List.rec (motive := fun _ => Bool) true (fun v _ r => cond (zsf j v) r false) L
theorem zsfL_t {j : Nat} : ∀ {L : List zV}, zsfL j L = true → ∀ v, v ∈ L → zsf j v = true
  | [], _, v, h => by cases h
  | w :: L, h, v, hv => by
    have h : cond (zsf j w) (zsfL j L) false = true := h
    cases hb : zsf j w
    · rw [hb] at h; cases h
    · rw [hb, cond_true] at h
      rcases List.mem_cons.mp hv with rfl | hv
      · exact hb
      · exact zsfL_t h v hv
/-- a list less one of its places; one more place -/
noncomputable def zex (i : Nat) : List zV → (List zV → Bool) → Bool := Nat.rec (motive := fun _ => List zV → (List zV → Bool) → Bool) (fun L k => List.rec (motive := fun _ => Bool) false (fun _ t _ => k t) L) (fun _ r L k => List.rec (motive := fun _ => Bool) false (fun v t _ => r t (fun t => k (v :: t))) L) i
theorem zex_t : ∀ (i : Nat) {L : List zV} {k : List zV → Bool}, zex i L k = true → ∃ R : List zV, k R = true ∧ R.length + 1 = L.length ∧ (∀ m : Nat, m < i → R[m]? = L[m]?) ∧ (∀ m : Nat, i ≤ m → R[m]? = L[m + 1]?)
  | 0, [], _, h => by cases h
  | 0, v :: L, k, h => ⟨L, h, rfl, fun m hm => absurd hm (Nat.not_lt_zero m), fun m _ => by simp⟩
  | i + 1, [], _, h => by cases h
  | i + 1, v :: L, k, h => by
    obtain ⟨R, h1, h2, h3, h4⟩ := zex_t i (L := L) (k := fun t => k (v :: t)) h
    refine ⟨v :: R, h1, by simp; omega, fun m hm => ?_, fun m hm => ?_⟩
    · cases m with
      | zero => rfl
      | succ m => simpa using h3 m (by omega)
    · cases m with
      | zero => omega
      | succ m => simpa using h4 m (by omega)
noncomputable def zin (i : Nat) (x : zV) : List zV → (List zV → Bool) → Bool := Nat.rec (motive := fun _ => List zV → (List zV → Bool) → Bool) (fun R k => k (x :: R)) (fun _ r R k => List.rec (motive := fun _ => Bool) false (fun v t _ => r t (fun t => k (v :: t))) R) i
theorem zin_t : ∀ (i : Nat) {x : zV} {R : List zV} {k : List zV → Bool}, zin i x R k = true → ∃ L : List zV, k L = true ∧ L.length = R.length + 1 ∧ L[i]? = some x ∧ (∀ m : Nat, m < i → L[m]? = R[m]?) ∧ (∀ m : Nat, i ≤ m → L[m + 1]? = R[m]?)
  | 0, x, R, k, h => ⟨x :: R, h, rfl, rfl, fun m hm => absurd hm (Nat.not_lt_zero m), fun m _ => by simp⟩
  | i + 1, x, [], k, h => by cases h
  | i + 1, x, v :: R, k, h => by
    obtain ⟨L, h1, h2, h3, h4, h5⟩ := zin_t i (x := x) (R := R) (k := fun t => k (v :: t)) h
    refine ⟨v :: L, h1, by simp [h2], by simpa using h3, fun m hm => ?_, fun m hm => ?_⟩
    · cases m with
      | zero => rfl
      | succ m => simpa using h4 m (by omega)
    · cases m with
      | zero => omega
      | succ m => simpa using h5 m (by omega)
theorem zLoc_new {G G3 : zGh} {ad : zA} {nL i j n c : Nat} {L L0 R R0 : List zV} {ls : Array Slot} (hL : @zLoc G ad nL L ls) (r1 : R.length + 1 = L.length) (r2 : ∀ m : Nat, m < i → R[m]? = L[m]?) (r3 : ∀ m : Nat, i ≤ m → R[m]? = L[m + 1]?)
    (q1 : L0.length = R0.length + 1) (q2 : L0[i]? = some (zI c)) (q3 : ∀ m : Nat, m < i → L0[m]? = R0[m]?) (q4 : ∀ m : Nat, i ≤ m → L0[m + 1]? = R0[m]?) (hs : zsubL true R R0 = true) (hf : zsfL j R0 = true) (hG : ∀ m, m < j → @zg G3 m = @zg G m) (hi : L[i]? = some (zI n)) (hc : ∀ iv : Int32, ls[i]? = some (.val (.int iv)) → @zIs G n iv → @zIs G3 c iv) : @zLoc G3 ad nL L0 ls := by
  obtain ⟨a1, lv, a2, a3⟩ := hL
  obtain ⟨s1, s2⟩ := zsubL_t hs
  refine ⟨by omega, lv, a2, fun m w hw => ?_⟩
  have key : ∀ p q : Nat, R0[p]? = some w → R[p]? = L[q]? → w = zU ∨ ∃ x : Value, (q, x) ∈ lv ∧ @zRep G3 ad w x := by
    intro p q e1 e2
    obtain ⟨v, v1, v2⟩ := s2 p w e1
    rw [e2] at v1
    rcases a3 q v v1 with rfl | ⟨x, hx, hr⟩
    · exact Or.inl (zsubV_U v2)
    · rcases @zsubV_ok G true ad v w x v2 hr with ⟨-, z⟩ | z
      · exact Or.inl z
      · exact Or.inr ⟨x, hx, zRep_G hG (zsfL_t hf w (List.mem_of_getElem? e1)) z⟩
  rcases Nat.lt_trichotomy m i with h | h | h
  · exact key m m (by rw [← q3 m h]; exact hw) (r2 m h)
  · subst h
    rw [q2] at hw
    cases hw
    rcases a3 m _ hi with z | ⟨x, hx, iv, rfl, h2⟩
    · cases z
    · exact Or.inr ⟨_, hx, iv, rfl, hc iv (a2.2.2 _ hx) h2⟩
  · obtain ⟨m', rfl⟩ : ∃ m', m = m' + 1 := ⟨m - 1, by omega⟩
    exact key m' (m' + 1) (by rw [← q4 m' (by omega)]; exact hw) (r3 m' (by omega))
theorem zCx_G {G G' : zGh} {X : zM} {cA : Nat → ClassId} {D : va_G} {p : Program} {s : State} {m : MethodId} {args : Array Value} {meth : Method} {c : Code} {A : Nat → Prop} (h0 : @zg G' 0 = @zg G 0) (Cx : @zCx G X cA D p s m args meth c A) : @zCx G' X cA D p s m args meth c A := ⟨Cx.1, Cx.2.1, Cx.2.2.1, Cx.2.2.2.1, Cx.2.2.2.2.1, Cx.2.2.2.2.2.1, Cx.2.2.2.2.2.2.1, Cx.2.2.2.2.2.2.2.1, ⟨Cx.2.2.2.2.2.2.2.2.1.1, Cx.2.2.2.2.2.2.2.2.1.2.trans h0.symm⟩, Cx.2.2.2.2.2.2.2.2.2⟩
section OPS
variable {d : Nat} {X : zM} {fr : Nat} {P : zP d} {pc pc' : Nat} {k : zK d}
/-- whatever symbols from j on stand for -/
def zSimJ [G : zGh] {d : Nat} (j : Nat) (X : zM) (fr : Nat) (P : zP d) (pc : Nat) (k : zK d) : Prop := ∀ G' : zGh, (∀ m, m < j → @zg G' m = @zg G m) → @zSim G' d X fr P pc k
theorem zSimJ.use [G : zGh] {j : Nat} (h : zSimJ j X fr P pc k) : zSim X fr P pc k := h G (fun _ _ => rfl)
theorem zSimJ.mv {G G' : zGh} {j j' : Nat} (h : @zSimJ G d j X fr P pc k) (hG : ∀ m, m < j' → @zg G' m = @zg G m) (hj : j ≤ j') : @zSimJ G' d j X fr P pc k := fun G2 h2 => h G2 (fun m hm => (h2 m hm).trans (hG m (by omega)))
/-- a way to weaken a state, a way to find a bound: nothing needs to be known of them -/
abbrev zWk (d : Nat) : Type := List zV → zH d → (List zV → zH d → Bool) → Bool
abbrev zHs (d : Nat) : Type := List zV → zH d → (Nat → Bool) → Bool
def zWkOK (wk : zWk d) : Prop := ∀ L h K, wk L h K = true → ∃ L' h', K L' h' = true
def zHsOK (hs : zHs d) : Prop := ∀ L h K, hs L h K = true → ∃ n, K n = true
/-- the way back to a loop's head -/
noncomputable def zbk (i j hi : Nat) (R0 : List zV) (h0 : zH d) : zK d := fun L S h => List.rec (motive := fun _ => Bool) (znth i L (fun v => Sum.rec (motive := fun _ => Bool) (fun n => cond (Nat.beq (Nat.div n 4722366482869645213696) (Nat.add j 65536)) (cond (Nat.ble (zhi n) hi) (zex i L (fun R => cond (zsubL true R R0) (zsubH h h0) false)) false) false) (fun _ => false) v)) (fun _ _ _ => false) S
theorem zbk_t {i j hi : Nat} {R0 : List zV} {h0 h : zH d} {L S : List zV} (hk : zbk i j hi R0 h0 L S h = true) : S = [] ∧ ∃ (n : Nat) (R : List zV), L[i]? = some (zI n) ∧ n / 4722366482869645213696 = j + 65536 ∧ zhi n ≤ hi ∧ R.length + 1 = L.length ∧ (∀ m : Nat, m < i → R[m]? = L[m]?) ∧ (∀ m : Nat, i ≤ m → R[m]? = L[m + 1]?) ∧ zsubL true R R0 = true ∧ zsubH h h0 = true := by
  match S, hk with
  | [], hk =>
    obtain ⟨v, hv, hk2⟩ := znth_t i hk
    match v, hv, hk2 with
    | .inl n, hv, hk2 =>
      have hk2 : cond (Nat.beq (Nat.div n 4722366482869645213696) (Nat.add j 65536)) (cond (Nat.ble (zhi n) hi) (zex i L (fun R => cond (zsubL true R R0) (zsubH h h0) false)) false) false = true := hk2
      cases h1 : Nat.beq (Nat.div n 4722366482869645213696) (Nat.add j 65536)
      · rw [h1] at hk2; cases hk2
      cases h2 : Nat.ble (zhi n) hi
      · rw [h1, h2] at hk2; cases hk2
      rw [h1, h2, cond_true, cond_true] at hk2
      obtain ⟨R, g1, g2, g3, g4⟩ := zex_t i hk2
      cases h3 : zsubL true R R0
      · rw [h3] at g1; cases g1
      rw [h3, cond_true] at g1
      exact ⟨rfl, n, R, hv, Nat.eq_of_beq_eq_true h1, Nat.le_of_ble_eq_true h2, g2, g3, g4, h3, g1⟩
noncomputable def xlp (i j : Nat) (hs : zHs d) (wk : zWk d) (body : zK d → zK d) : zK d := fun L S h => List.rec (motive := fun _ => Bool) (znth i L (fun v => Sum.rec (motive := fun _ => Bool) (fun n => hs L h (fun hi => cond (Nat.ble hi 2147483648) (cond (Nat.ble (zhi n) hi) (zF (fun lo => wk L h (fun L1 h0 => zex i L1 (fun R0 => zex i L (fun R => cond (zsubL true R R0) (cond (zsfL j R0) (cond (zsubH h h0) (zF (fun c => zin i (zI c) R0 (fun L0 => body (zbk i j hi R0 h0) L0 [] h0)) (zsy j lo hi)) false) false) false)))) (zlo n)) false) false)) (fun _ => false) v)) (fun _ _ _ => false) S
theorem lp_claim [G : zGh] {i j lo hi : Nat} {R0 L0 : List zV} {h0 : zH d} {body : zK d → zK d} (hj0 : 0 < j) (hj : j < 65536) (hhi : hi ≤ 2147483648) (q1 : L0.length = R0.length + 1) (q2 : L0[i]? = some (zI (zsy j lo hi))) (q3 : ∀ m : Nat, m < i → L0[m]? = R0[m]?) (q4 : ∀ m : Nat, i ≤ m → L0[m + 1]? = R0[m]?) (hf : zsfL j R0 = true)
    (hb : ∀ (G' : zGh), (∀ m, m < j → @zg G' m = @zg G m) → ∀ r, @zSimJ G' d (j + 1) X fr P pc r → @zSim G' d X fr P pc (body r)) (hk0 : body (zbk i j hi R0 h0) L0 [] h0 = true) : ∀ (n v : Nat), hi ≤ v + n → lo ≤ v → v < hi → ∀ (G' : zGh), (∀ m, m < j → @zg G' m = @zg G m) → @zg G' j = v →
    ∀ (Ch : zCh) (cA : Nat → ClassId) (D : va_G) (ad0 : zA) (A : Nat → Prop) (MC MS : Nat) (p : Program) (l : Launch) (e : Env) (s : State) (m : MethodId) (args : Array Value) (below : List Frame) (meth : Method) (c : Code) (ls : Array Slot) (st : List Value) (H : Heap) (locs : List Loc) (cells slots : Nat),
    @zCx G' X cA D p s m args meth c A → @zRel G' Ch d cA D ad0 A MC MS s X.2.2.1 L0 [] h0 ls st H locs cells slots → W p l e (zRm fr MC MS) s m args below meth c H locs cells slots (MQ below (zQc P cA D ad0 A) args s MC MS A) (F0 m pc ls st)
  | 0, v, h1, h2, h3 => absurd h1 (by omega)
  | n + 1, v, h1, h2, h3 => by
    intro G' hG' hv Ch cA D ad0 A MC MS p l e s m args below meth c ls st H locs cells slots Cx R
    refine hb G' hG' (zbk i j hi R0 h0) ?_ Ch cA D ad0 A MC MS p l e s m args below meth c ls st H locs cells slots L0 [] h0 Cx hk0 R
    intro G2 hG2 Ch2 cA2 D2 ad2 A2 MC2 MS2 p2 l2 e2 s2 m2 args2 below2 meth2 c2 ls2 st2 H2 locs2 cells2 slots2 L S h Cx2 hk R2
    obtain ⟨rfl, nn, R1, g1, g2, g3, g4, g5, g6, g7, g8⟩ := zbk_t hk
    obtain ⟨ws, hHp, hpre, hP, hD, hS, hL, hst, hcb, hsb⟩ := R2
    have hval : ∀ iv : Int32, @zIs G2 nn iv → zi iv = v + 1 ∧ zi iv < hi := by
      intro iv hz
      have hn : 4722366482869645213696 ≤ nn := by omega
      have e1 := hz.2.2.2 hn
      have e2 : (j + 65536) % 65536 = j := by omega
      have e3 : (j + 65536) / 65536 = 1 := by omega
      rw [g2, e2, e3, hG2 j (Nat.lt_succ_self j), hv] at e1
      exact ⟨e1, Nat.lt_of_lt_of_le (@zhi_ok G2 nn iv hz) g3⟩
    obtain ⟨iv, hiv⟩ : ∃ iv : Int32, @zIs G2 nn iv := by
      obtain ⟨-, lv, -, a3⟩ := hL
      rcases a3 i _ g1 with z | ⟨x, hx, iv, rfl, h2⟩
      · cases z
      · exact ⟨iv, h2⟩
    obtain ⟨w1, w2⟩ := hval iv hiv
    have hG3 : ∀ m, m < j → @zg (zgu G2 j (v + 1)) m = @zg G2 m := fun m hm => zgu_ne G2 (v + 1) (by omega)
    obtain ⟨-, z2, z3, -⟩ := zsubH_t g8
    match st2, hst with
    | [], _ =>
      exact lp_claim (G := G) hj0 hj hhi q1 q2 q3 q4 hf hb hk0 n (v + 1) (by omega) (by omega) (by omega) (zgu G2 j (v + 1)) (fun m hm => (hG3 m hm).trans ((hG2 m (by omega)).trans (hG' m hm))) (zgu_same G2 j (v + 1)) Ch2 cA2 D2 ad2 A2 MC2 MS2 p2 l2 e2 s2 m2 args2 below2 meth2 c2 ls2 [] H2 locs2 cells2 slots2 (zCx_G (hG3 0 hj0) Cx2)
        ⟨ws, zsubH_ok g8 hHp, hpre, hP, hD, hS, zLoc_new hL g4 g5 g6 q1 q2 q3 q4 g7 hf hG3 g1 (fun iv _ hz => by
          obtain ⟨y1, y2⟩ := hval iv hz
          exact @zsy_ok (zgu G2 j (v + 1)) j lo hi iv (by omega) y2 hhi (by rw [Nat.mod_eq_of_lt hj, Nat.div_eq_of_lt hj, zgu_same]; exact y1)), trivial, by omega, by omega⟩
/-- a loop whose one number rises by 1 at each turn up to a bound -/
theorem sm_lp [G : zGh] {i j : Nat} {hs : zHs d} {wk : zWk d} {body : zK d → zK d} (hj0 : 0 < j) (hj : j < 65536) (hhs : zHsOK hs) (hwk : zWkOK wk) (hb : ∀ (G' : zGh), (∀ m, m < j → @zg G' m = @zg G m) → ∀ r, @zSimJ G' d (j + 1) X fr P pc r → @zSim G' d X fr P pc (body r)) : zSim X fr P pc (xlp i j hs wk body) := by
  intro Ch cA D ad0 A MC MS p l e s m args below meth c ls st H locs cells slots L S h Cx hk R
  obtain ⟨ws, hHp, hpre, hP, hD, hS, hL, hst, hcb, hsb⟩ := R
  match S, hk, hst with
  | [], hk, hst =>
    obtain ⟨v, hv, hk2⟩ := znth_t i hk
    match v, hv, hk2 with
    | .inl n, hv, hk2 =>
      obtain ⟨hi, hk3⟩ := hhs _ _ _ hk2
      cases h1 : Nat.ble hi 2147483648
      · rw [h1] at hk3; cases hk3
      cases h2 : Nat.ble (zhi n) hi
      · rw [h1, h2] at hk3; cases hk3
      rw [h1, h2, cond_true, cond_true, zF_eq] at hk3
      obtain ⟨L1, h0, hk4⟩ := hwk _ _ _ hk3
      obtain ⟨R0, hk5, -⟩ := zex_t i hk4
      obtain ⟨R, hk6, r1, r2, r3⟩ := zex_t i hk5
      cases h3 : zsubL true R R0
      · rw [h3] at hk6; cases hk6
      cases h4 : zsfL j R0
      · rw [h3, h4] at hk6; cases hk6
      cases h5 : zsubH h h0
      · rw [h3, h4, h5] at hk6; cases hk6
      rw [h3, h4, h5, cond_true, cond_true, cond_true, zF_eq] at hk6
      obtain ⟨L0, hk7, q1, q2, q3, q4⟩ := zin_t i hk6
      obtain ⟨-, z2, z3, -⟩ := zsubH_t h5
      have hhi := Nat.le_of_ble_eq_true h1
      have hz0 := Nat.le_of_ble_eq_true h2
      obtain ⟨iu, hls, hiu⟩ : ∃ iu : Int32, ls[i]? = some (.val (.int iu)) ∧ zIs n iu := by
        obtain ⟨-, lv, hlv, a3⟩ := hL
        rcases a3 i _ hv with z | ⟨x, hx, iu, rfl, hiu⟩
        · cases z
        · exact ⟨iu, hlv.2.2 _ hx, hiu⟩
      match st, hst with
      | [], _ =>
        exact lp_claim hj0 hj hhi q1 q2 q3 q4 h4 hb hk7 hi (zi iu) (by omega) (zlo_ok hiu) (Nat.lt_of_lt_of_le (zhi_ok hiu) hz0) (zgu G j (zi iu)) (fun m hm => zgu_ne G _ (by omega)) (zgu_same G j _) Ch cA D ad0 A MC MS p l e s m args below meth c ls [] H locs cells slots (zCx_G (zgu_ne G (zi iu) (by omega)) Cx)
          ⟨ws, zsubH_ok h5 hHp, hpre, hP, hD, hS, zLoc_new hL r1 r2 r3 q1 q2 q3 q4 h3 h4 (fun m hm => zgu_ne G (zi iu) (by omega)) hv (fun iv hl _ => by
            rw [hls] at hl
            cases hl
            exact @zsy_ok (zgu G j (zi iu)) j (zlo n) hi iu (zlo_ok hiu) (Nat.lt_of_lt_of_le (zhi_ok hiu) hz0) hhi (by rw [Nat.mod_eq_of_lt hj, Nat.div_eq_of_lt hj, zgu_same]; rfl)), trivial, by omega, by omega⟩
/-- a join that is gone through once, from a weaker state -/
noncomputable def xjn (wk : zWk d) (sp : List zV → (List zV → Bool) → Bool) (c : zK d) (f : zK d → zK d) : zK d := fun L S h => wk L h (fun L0 h0 => sp S (fun S0 => cond (c L0 S0 h0) (f (xchk L0 S0 h0) L S h) false))
theorem sm_jn [G : zGh] {j : Nat} {wk : zWk d} {sp : List zV → (List zV → Bool) → Bool} {c : zK d} {f : zK d → zK d} (hwk : zWkOK wk) (hsp : ∀ S K, sp S K = true → ∃ S0, K S0 = true) (hc : zSimJ j X fr P pc' c) (hf : ∀ r, zSimJ j X fr P pc' r → zSim X fr P pc (f r)) : zSim X fr P pc (xjn wk sp c f) := by
  intro Ch cA D ad0 A MC MS p l e s m args below meth c0 ls st H locs cells slots L S h Cx hk R
  obtain ⟨L0, h0, hk1⟩ := hwk _ _ _ hk
  obtain ⟨S0, hk2⟩ := hsp _ _ hk1
  cases h1 : c L0 S0 h0
  · rw [h1] at hk2; cases hk2
  rw [h1, cond_true] at hk2
  exact hf (xchk L0 S0 h0) (fun G' hG' => @sm_chk d X fr P pc' c G' L0 S0 h0 (hc G' hG') h1) Ch cA D ad0 A MC MS p l e s m args below meth c0 ls st H locs cells slots L S h Cx hk2 R
theorem sm_joinJ [G : zGh] {j : Nat} {c : zK d} {f : zK d → zK d} (hc : zSimJ j X fr P pc' c) (hf : ∀ r, zSimJ j X fr P pc' r → zSim X fr P pc (f r)) : zSim X fr P pc (xjoin c f) := hf c hc
/-- a loop with fuel, whatever symbols from j on stand for -/
theorem sm_loopJ [G : zGh] {j : Nat} {body : zK d → zK d} (hb : ∀ (G' : zGh), (∀ m, m < j → @zg G' m = @zg G m) → ∀ r, @zSimJ G' d j X fr P pc r → @zSim G' d X fr P pc (body r)) : ∀ fuel, zSimJ j X fr P pc (xloop body fuel)
  | 0 => fun G' _ => by
    intro Ch cA D ad0 A MC MS p l e s m args below meth c0 ls st H locs cells slots L S h Cx hk R
    cases hk
  | n + 1 => fun G' hG' => hb G' hG' _ ((sm_loopJ (G := G) hb n).mv hG' (Nat.le_refl j))
/-- a weaker state -/
noncomputable def xwk (wk : zWk d) (k : zK d) : zK d := fun L S h => wk L h (fun L0 h0 => cond (zsubL true L L0) (cond (zsubH h h0) (k L0 S h0) false) false)
theorem sm_wk [G : zGh] {wk : zWk d} (hwk : zWkOK wk) (hs : zSim X fr P pc k) : zSim X fr P pc (xwk wk k) := by
  intro Ch cA D ad0 A MC MS p l e s m args below meth c ls st H locs cells slots L S h Cx hk R0
  obtain ⟨ws, hHp, hpre, hP, hD, hS, hL, hst, hcb, hsb⟩ := R0
  obtain ⟨L0, h0, hk1⟩ := hwk _ _ _ hk
  cases h1 : zsubL true L L0
  · rw [h1] at hk1; cases hk1
  cases h2 : zsubH h h0
  · rw [h1, h2] at hk1; cases hk1
  rw [h1, h2, cond_true, cond_true] at hk1
  obtain ⟨-, g2, g3, -⟩ := zsubH_t h2
  exact hs Ch cA D ad0 A MC MS p l e s m args below meth c ls st H locs cells slots L0 S h0 Cx hk1 ⟨ws, zsubH_ok h2 hHp, hpre, hP, hD, hS, zsubL_L h1 hL, hst, by omega, by omega⟩
end OPS
end
