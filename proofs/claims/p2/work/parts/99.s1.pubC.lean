/-! the class to be called with any numbers, by program -/
noncomputable def bX8_isPartitiona_20 {d : Nat} (P : zP d) : zK d := (xzret P)
set_option maxRecDepth 100000 in
set_option maxHeartbeats 4000000 in
theorem sbX8_isPartitiona_20 {d : Nat} [zGh] (P : zP d) : zSim X_X8_isPartition 1 P 20 (bX8_isPartitiona_20 P) := by
  unfold bX8_isPartitiona_20
  exact sm_zreturn (pc := 20) dX8_isPartition_20 rfl
noncomputable def bX8_isPartitiona_19 {d : Nat} (P : zP d) (j20 : zK d) : zK d := (xpI 0 j20)
set_option maxRecDepth 100000 in
set_option maxHeartbeats 4000000 in
theorem sbX8_isPartitiona_19 {d : Nat} [zGh] (P : zP d) (j20 : zK d) (hj20 : zSimJ 1 X_X8_isPartition 1 P 20 j20) : zSim X_X8_isPartition 1 P 19 (bX8_isPartitiona_19 P j20) := by
  unfold bX8_isPartitiona_19
  refine sm_iconst (pc := 19) dX8_isPartition_19 zc_i_0 ?_
  exact hj20.use
noncomputable def b_X8_isPartitiona {d : Nat} (P : zP d) : zK d := (xild 1 (xjoin (bX8_isPartitiona_20 P) (fun j20 => (xjoin (bX8_isPartitiona_19 P j20) (fun j19 => (xif0S tgeR rlGe rhS rlS rhLt (xild 1 (xald 0 (xgfR 24 6 (xgfI 23 1 (xcmpS tgeR rlGe rhS rlS rhLt j19 (xpI 1 j20)))))) j19))))))
set_option maxRecDepth 100000 in
set_option maxHeartbeats 4000000 in
theorem s_X8_isPartitiona {d : Nat} [zGh] (P : zP d) : zSim X_X8_isPartition 1 P 0 (b_X8_isPartitiona P) := by
  unfold b_X8_isPartitiona
  refine sm_iload_n (pc := 0) (n := 1) dX8_isPartition_0 rfl ?_
  refine sm_joinJ (pc := 1) (pc' := 20) (j := 1) (fun G0 hG0 => @sbX8_isPartitiona_20 d G0 P) (fun j20 hj20 => ?_)
  refine sm_joinJ (pc := 1) (pc' := 19) (j := 1) (fun G0 hG0 => @sbX8_isPartitiona_19 d G0 P j20 (hj20.mv hG0 (by decide))) (fun j19 hj19 => ?_)
  refine sm_ifS_lt (pc := 1) (tgt := 19) dX8_isPartition_1 (by decide) ?_ ?_
  · skip
    exact hj19.use
  · skip
    refine sm_iload_n (pc := 4) (n := 1) dX8_isPartition_4 rfl ?_
    refine sm_aload_n (pc := 5) (n := 0) dX8_isPartition_5 rfl ?_
    refine gf_X8_40 (pc := 6) rfl dX8_isPartition_6 ?_
    refine gf_X8_74 (pc := 9) rfl dX8_isPartition_9 ?_
    refine sm_icmpS_ge (pc := 12) (tgt := 19) dX8_isPartition_12 (by decide) ?_ ?_
    · skip
      exact hj19.use
    · skip
      refine sm_iconst (pc := 15) dX8_isPartition_15 zc_i_1 ?_
      refine sm_goto (pc := 16) (tgt := 20) dX8_isPartition_16 (by decide) ?_
      exact hj20.use
noncomputable def f_X8_isPartitiona {d : Nat} : List zV → zH d → zP d → Bool := zfn 2 b_X8_isPartitiona
theorem m_X8_isPartitiona {d : Nat} : zMet (d := d) X_X8_isPartition yX8_isPartition 1 f_X8_isPartitiona := zmet_mk (X := X_X8_isPartition) (by decide) rfl rfl s_X8_isPartitiona

noncomputable def bX8_isSlota_15 {d : Nat} (P : zP d) : zK d := (xzret P)
set_option maxRecDepth 100000 in
set_option maxHeartbeats 4000000 in
theorem sbX8_isSlota_15 {d : Nat} [zGh] (P : zP d) : zSim X_X8_isSlot 1 P 15 (bX8_isSlota_15 P) := by
  unfold bX8_isSlota_15
  exact sm_zreturn (pc := 15) dX8_isSlot_15 rfl
noncomputable def bX8_isSlota_14 {d : Nat} (P : zP d) (j15 : zK d) : zK d := (xpI 0 j15)
set_option maxRecDepth 100000 in
set_option maxHeartbeats 4000000 in
theorem sbX8_isSlota_14 {d : Nat} [zGh] (P : zP d) (j15 : zK d) (hj15 : zSimJ 1 X_X8_isSlot 1 P 15 j15) : zSim X_X8_isSlot 1 P 14 (bX8_isSlota_14 P j15) := by
  unfold bX8_isSlota_14
  refine sm_iconst (pc := 14) dX8_isSlot_14 zc_i_0 ?_
  exact hj15.use
noncomputable def b_X8_isSlota {d : Nat} (P : zP d) : zK d := (xild 0 (xjoin (bX8_isSlota_15 P) (fun j15 => (xjoin (bX8_isSlota_14 P j15) (fun j14 => (xif0S tgeR rlGe rhS rlS rhLt (xild 0 (xpI 6 (xcmpS tgeR rlGe rhS rlS rhLt j14 (xpI 1 j15)))) j14))))))
set_option maxRecDepth 100000 in
set_option maxHeartbeats 4000000 in
theorem s_X8_isSlota {d : Nat} [zGh] (P : zP d) : zSim X_X8_isSlot 1 P 0 (b_X8_isSlota P) := by
  unfold b_X8_isSlota
  refine sm_iload_n (pc := 0) (n := 0) dX8_isSlot_0 rfl ?_
  refine sm_joinJ (pc := 1) (pc' := 15) (j := 1) (fun G0 hG0 => @sbX8_isSlota_15 d G0 P) (fun j15 hj15 => ?_)
  refine sm_joinJ (pc := 1) (pc' := 14) (j := 1) (fun G0 hG0 => @sbX8_isSlota_14 d G0 P j15 (hj15.mv hG0 (by decide))) (fun j14 hj14 => ?_)
  refine sm_ifS_lt (pc := 1) (tgt := 14) dX8_isSlot_1 (by decide) ?_ ?_
  · skip
    exact hj14.use
  · skip
    refine sm_iload_n (pc := 4) (n := 0) dX8_isSlot_4 rfl ?_
    refine sm_bipush (pc := 5) dX8_isSlot_5 zc_b_6 ?_
    refine sm_icmpS_ge (pc := 7) (tgt := 14) dX8_isSlot_7 (by decide) ?_ ?_
    · skip
      exact hj14.use
    · skip
      refine sm_iconst (pc := 10) dX8_isSlot_10 zc_i_1 ?_
      refine sm_goto (pc := 11) (tgt := 15) dX8_isSlot_11 (by decide) ?_
      exact hj15.use
noncomputable def f_X8_isSlota {d : Nat} : List zV → zH d → zP d → Bool := zfn 1 b_X8_isSlota
theorem m_X8_isSlota {d : Nat} : zMet (d := d) X_X8_isSlot yX8_isSlot 1 f_X8_isSlota := zmet_mk (X := X_X8_isSlot) (by decide) rfl rfl s_X8_isSlota

noncomputable def bX8_isRegularPartitiona_24 {d : Nat} (P : zP d) : zK d := (xzret P)
set_option maxRecDepth 100000 in
set_option maxHeartbeats 4000000 in
theorem sbX8_isRegularPartitiona_24 {d : Nat} [zGh] (P : zP d) : zSim X_X8_isRegularPartition 2 P 24 (bX8_isRegularPartitiona_24 P) := by
  unfold bX8_isRegularPartitiona_24
  exact sm_zreturn (pc := 24) dX8_isRegularPartition_24 rfl
noncomputable def bX8_isRegularPartitiona_23 {d : Nat} (P : zP d) (j24 : zK d) : zK d := (xpI 0 j24)
set_option maxRecDepth 100000 in
set_option maxHeartbeats 4000000 in
theorem sbX8_isRegularPartitiona_23 {d : Nat} [zGh] (P : zP d) (j24 : zK d) (hj24 : zSimJ 1 X_X8_isRegularPartition 2 P 24 j24) : zSim X_X8_isRegularPartition 2 P 23 (bX8_isRegularPartitiona_23 P j24) := by
  unfold bX8_isRegularPartitiona_23
  refine sm_iconst (pc := 23) dX8_isRegularPartition_23 zc_i_0 ?_
  exact hj24.use
noncomputable def b_X8_isRegularPartitiona {d : Nat} (P : zP d) : zK d := (xald 0 (xild 1 (xcV 24 2 0 0 (zstr f_X8_isPartitiona) (xjoin (bX8_isRegularPartitiona_24 P) (fun j24 => (xjoin (bX8_isRegularPartitiona_23 P j24) (fun j23 => (xif0S teqR rlEq rhEq rlNe rhNe j23 (xald 0 (xgfR 24 7 (xild 1 (xcV 21 2 0 0 (zstr f_X5_isRegular) (xif0S teqR rlEq rhEq rlNe rhNe j23 (xpI 1 j24))))))))))))))
set_option maxRecDepth 100000 in
set_option maxHeartbeats 4000000 in
theorem s_X8_isRegularPartitiona {d : Nat} [zGh] (P : zP d) : zSim X_X8_isRegularPartition 2 P 0 (b_X8_isRegularPartitiona P) := by
  unfold b_X8_isRegularPartitiona
  refine sm_aload_n (pc := 0) (n := 0) dX8_isRegularPartition_0 rfl ?_
  refine sm_iload_n (pc := 1) (n := 1) dX8_isRegularPartition_1 rfl ?_
  refine sm_cV (pc := 2) (ci := 8) (n := 2) (mc := 0) (ms := 0) rfl (zMet_str m_X8_isPartitiona) (cr_X8_126 (X := X_X8_isRegularPartition) (fr := 2) (frc := 1) (pc := 2) (mc := 0) (ms := 0) rfl (by decide) dX8_isRegularPartition_2) ?_
  refine sm_joinJ (pc := 5) (pc' := 24) (j := 1) (fun G0 hG0 => @sbX8_isRegularPartitiona_24 d G0 P) (fun j24 hj24 => ?_)
  refine sm_joinJ (pc := 5) (pc' := 23) (j := 1) (fun G0 hG0 => @sbX8_isRegularPartitiona_23 d G0 P j24 (hj24.mv hG0 (by decide))) (fun j23 hj23 => ?_)
  refine sm_ifS_eq (pc := 5) (tgt := 23) dX8_isRegularPartition_5 (by decide) ?_ ?_
  · skip
    exact hj23.use
  · skip
    refine sm_aload_n (pc := 8) (n := 0) dX8_isRegularPartition_8 rfl ?_
    refine gf_X8_47 (pc := 9) rfl dX8_isRegularPartition_9 ?_
    refine sm_iload_n (pc := 12) (n := 1) dX8_isRegularPartition_12 rfl ?_
    refine sm_cV (pc := 13) (ci := 5) (n := 2) (mc := 0) (ms := 0) rfl (zMet_str m_X5_isRegular) (cr_X8_145 (X := X_X8_isRegularPartition) (fr := 2) (frc := 1) (pc := 13) (mc := 0) (ms := 0) rfl (by decide) dX8_isRegularPartition_13) ?_
    refine sm_ifS_eq (pc := 16) (tgt := 23) dX8_isRegularPartition_16 (by decide) ?_ ?_
    · skip
      exact hj23.use
    · skip
      refine sm_iconst (pc := 19) dX8_isRegularPartition_19 zc_i_1 ?_
      refine sm_goto (pc := 20) (tgt := 24) dX8_isRegularPartition_20 (by decide) ?_
      exact hj24.use
noncomputable def f_X8_isRegularPartitiona {d : Nat} : List zV → zH d → zP d → Bool := zfn 2 b_X8_isRegularPartitiona
theorem m_X8_isRegularPartitiona {d : Nat} : zMet (d := d) X_X8_isRegularPartition yX8_isRegularPartition 2 f_X8_isRegularPartitiona := zmet_mk (X := X_X8_isRegularPartition) (by decide) rfl rfl s_X8_isRegularPartitiona

noncomputable def bX8_partAta_13 {d : Nat} (P : zP d) : zK d := (xiret P)
set_option maxRecDepth 100000 in
set_option maxHeartbeats 4000000 in
theorem sbX8_partAta_13 {d : Nat} [zGh] (P : zP d) : zSim X_X8_partAt 1 P 13 (bX8_partAta_13 P) := by
  unfold bX8_partAta_13
  exact sm_ireturn (pc := 13) dX8_partAt_13 rfl
noncomputable def b_X8_partAta {d : Nat} (P : zP d) : zK d := (xild 1 (xald 0 (xlen (xjoin (bX8_partAta_13 P) (fun j13 => (xcmpS tgeR rlGe rhS rlS rhLt (xpI 0 j13) (xald 0 (xild 1 (xalQ 0 j13)))))))))
set_option maxRecDepth 100000 in
set_option maxHeartbeats 4000000 in
theorem s_X8_partAta {d : Nat} [zGh] (P : zP d) : zSim X_X8_partAt 1 P 0 (b_X8_partAta P) := by
  unfold b_X8_partAta
  refine sm_iload_n (pc := 0) (n := 1) dX8_partAt_0 rfl ?_
  refine sm_aload_n (pc := 1) (n := 0) dX8_partAt_1 rfl ?_
  refine sm_arraylength (pc := 2) dX8_partAt_2 ?_
  refine sm_joinJ (pc := 3) (pc' := 13) (j := 1) (fun G0 hG0 => @sbX8_partAta_13 d G0 P) (fun j13 hj13 => ?_)
  refine sm_icmpS_ge (pc := 3) (tgt := 12) dX8_partAt_3 (by decide) ?_ ?_
  · skip
    refine sm_iconst (pc := 12) dX8_partAt_12 zc_i_0 ?_
    exact hj13.use
  · skip
    refine sm_aload_n (pc := 6) (n := 0) dX8_partAt_6 rfl ?_
    refine sm_iload_n (pc := 7) (n := 1) dX8_partAt_7 rfl ?_
    refine sm_ialoadQ (pc := 8) dX8_partAt_8 ?_
    refine sm_goto (pc := 9) (tgt := 13) dX8_partAt_9 (by decide) ?_
    exact hj13.use
noncomputable def f_X8_partAta {d : Nat} : List zV → zH d → zP d → Bool := zfn 2 b_X8_partAta
theorem m_X8_partAta {d : Nat} : zMet (d := d) X_X8_partAt yX8_partAt 1 f_X8_partAta := zmet_mk (X := X_X8_partAt) (by decide) rfl rfl s_X8_partAta

noncomputable def bX4_hasCella_31 {d : Nat} (P : zP d) : zK d := (xzret P)
set_option maxRecDepth 100000 in
set_option maxHeartbeats 4000000 in
theorem sbX4_hasCella_31 {d : Nat} [zGh] (P : zP d) : zSim X_X4_hasCell 1 P 31 (bX4_hasCella_31 P) := by
  unfold bX4_hasCella_31
  exact sm_zreturn (pc := 31) dX4_hasCell_31 rfl
noncomputable def bX4_hasCella_30 {d : Nat} (P : zP d) (j31 : zK d) : zK d := (xpI 0 j31)
set_option maxRecDepth 100000 in
set_option maxHeartbeats 4000000 in
theorem sbX4_hasCella_30 {d : Nat} [zGh] (P : zP d) (j31 : zK d) (hj31 : zSimJ 1 X_X4_hasCell 1 P 31 j31) : zSim X_X4_hasCell 1 P 30 (bX4_hasCella_30 P j31) := by
  unfold bX4_hasCella_30
  refine sm_iconst (pc := 30) dX4_hasCell_30 zc_i_0 ?_
  exact hj31.use
noncomputable def b_X4_hasCella {d : Nat} (P : zP d) : zK d := (xild 1 (xjoin (bX4_hasCella_31 P) (fun j31 => (xjoin (bX4_hasCella_30 P j31) (fun j30 => (xif0S tgeR rlGe rhS rlS rhLt (xild 1 (xald 0 (xgfI 20 1 (xcmpS tgeR rlGe rhS rlS rhLt j30 (xild 2 (xif0S tgeR rlGe rhS rlS rhLt (xild 2 (xald 0 (xgfR 20 2 (xild 1 (xalQ 0 (xcmpS tgeR rlGe rhS rlS rhLt j30 (xpI 1 j31))))))) j30)))))) j30))))))
set_option maxRecDepth 100000 in
set_option maxHeartbeats 4000000 in
theorem s_X4_hasCella {d : Nat} [zGh] (P : zP d) : zSim X_X4_hasCell 1 P 0 (b_X4_hasCella P) := by
  unfold b_X4_hasCella
  refine sm_iload_n (pc := 0) (n := 1) dX4_hasCell_0 rfl ?_
  refine sm_joinJ (pc := 1) (pc' := 31) (j := 1) (fun G0 hG0 => @sbX4_hasCella_31 d G0 P) (fun j31 hj31 => ?_)
  refine sm_joinJ (pc := 1) (pc' := 30) (j := 1) (fun G0 hG0 => @sbX4_hasCella_30 d G0 P j31 (hj31.mv hG0 (by decide))) (fun j30 hj30 => ?_)
  refine sm_ifS_lt (pc := 1) (tgt := 30) dX4_hasCell_1 (by decide) ?_ ?_
  · skip
    exact hj30.use
  · skip
    refine sm_iload_n (pc := 4) (n := 1) dX4_hasCell_4 rfl ?_
    refine sm_aload_n (pc := 5) (n := 0) dX4_hasCell_5 rfl ?_
    refine gf_X4_13 (pc := 6) rfl dX4_hasCell_6 ?_
    refine sm_icmpS_ge (pc := 9) (tgt := 30) dX4_hasCell_9 (by decide) ?_ ?_
    · skip
      exact hj30.use
    · skip
      refine sm_iload_n (pc := 12) (n := 2) dX4_hasCell_12 rfl ?_
      refine sm_ifS_lt (pc := 13) (tgt := 30) dX4_hasCell_13 (by decide) ?_ ?_
      · skip
        exact hj30.use
      · skip
        refine sm_iload_n (pc := 16) (n := 2) dX4_hasCell_16 rfl ?_
        refine sm_aload_n (pc := 17) (n := 0) dX4_hasCell_17 rfl ?_
        refine gf_X4_22 (pc := 18) rfl dX4_hasCell_18 ?_
        refine sm_iload_n (pc := 21) (n := 1) dX4_hasCell_21 rfl ?_
        refine sm_ialoadQ (pc := 22) dX4_hasCell_22 ?_
        refine sm_icmpS_ge (pc := 23) (tgt := 30) dX4_hasCell_23 (by decide) ?_ ?_
        · skip
          exact hj30.use
        · skip
          refine sm_iconst (pc := 26) dX4_hasCell_26 zc_i_1 ?_
          refine sm_goto (pc := 27) (tgt := 31) dX4_hasCell_27 (by decide) ?_
          exact hj31.use
noncomputable def f_X4_hasCella {d : Nat} : List zV → zH d → zP d → Bool := zfn 3 b_X4_hasCella
theorem m_X4_hasCella {d : Nat} : zMet (d := d) X_X4_hasCell yX4_hasCell 1 f_X4_hasCella := zmet_mk (X := X_X4_hasCell) (by decide) rfl rfl s_X4_hasCella

noncomputable def bX6_puta_49 {d : Nat} (P : zP d) : zK d := (xvret P)
set_option maxRecDepth 100000 in
set_option maxHeartbeats 4000000 in
theorem sbX6_puta_49 {d : Nat} [zGh] (P : zP d) : zSim X_X6_put 1 P 49 (bX6_puta_49 P) := by
  unfold bX6_puta_49
  exact sm_vreturn (pc := 49) dX6_put_49 rfl
noncomputable def lX6_puta_3 {d : Nat} (P : zP d) (r3 : zK d) : zK d := (xild 2 (xjoin (bX6_puta_49 P) (fun j49 => (xif0S tgeR rlGe rhS rlS rhLt (xald 0 (xgfI 22 1 (xpI 200 (xcmpS tgeR rlGe rhS rlS rhLt j49 (xald 0 (xgfR 22 0 (xald 0 (xgfI 22 1 (xild 1 (xild 2 (xbin zshr (xpI 255 (xbin zandR (xasQ 0 (fun v => v) (xald 0 (xdup (xgfI 22 1 (xpI 1 (xbin zaddR (xpfI 22 1 (xincR 2 4294967288 r3))))))))))))))))))))) j49))))
set_option maxRecDepth 100000 in
set_option maxHeartbeats 4000000 in
theorem slX6_puta_3 {d : Nat} [zGh] (P : zP d) (r3 : zK d) (hr3 : zSimJ 1 X_X6_put 1 P 3 r3) : zSim X_X6_put 1 P 3 (lX6_puta_3 P r3) := by
  unfold lX6_puta_3
  refine sm_iload_n (pc := 3) (n := 2) dX6_put_3 rfl ?_
  refine sm_joinJ (pc := 4) (pc' := 49) (j := 1) (fun G0 hG0 => @sbX6_puta_49 d G0 P) (fun j49 hj49 => ?_)
  refine sm_ifS_lt (pc := 4) (tgt := 49) dX6_put_4 (by decide) ?_ ?_
  · skip
    exact hj49.use
  · skip
    refine sm_aload_n (pc := 7) (n := 0) dX6_put_7 rfl ?_
    refine gf_X6_13 (pc := 8) rfl dX6_put_8 ?_
    refine sm_sipush (pc := 11) dX6_put_11 zc_s_200 ?_
    refine sm_icmpS_ge (pc := 14) (tgt := 49) dX6_put_14 (by decide) ?_ ?_
    · skip
      exact hj49.use
    · skip
      refine sm_aload_n (pc := 17) (n := 0) dX6_put_17 rfl ?_
      refine gf_X6_9 (pc := 18) rfl dX6_put_18 ?_
      refine sm_aload_n (pc := 21) (n := 0) dX6_put_21 rfl ?_
      refine gf_X6_13 (pc := 22) rfl dX6_put_22 ?_
      refine sm_iload_n (pc := 25) (n := 1) dX6_put_25 rfl ?_
      refine sm_iload_n (pc := 26) (n := 2) dX6_put_26 rfl ?_
      refine sm_ishr (pc := 27) dX6_put_27 ?_
      refine sm_sipush (pc := 28) dX6_put_28 zc_s_255 ?_
      refine sm_iandR (pc := 31) dX6_put_31 ?_
      refine sm_iastoreQ (pc := 32) dX6_put_32 ?_
      refine sm_aload_n (pc := 33) (n := 0) dX6_put_33 rfl ?_
      refine sm_dup (pc := 34) dX6_put_34 ?_
      refine gf_X6_13 (pc := 35) rfl dX6_put_35 ?_
      refine sm_iconst (pc := 38) dX6_put_38 zc_i_1 ?_
      refine sm_iaddR (pc := 39) dX6_put_39 ?_
      refine pf_X6_13 (pc := 40) rfl dX6_put_40 ?_
      refine sm_iincR (pc := 43) (n := 2) dX6_put_43 zc_i_m8 ?_
      refine sm_goto (pc := 46) (tgt := 3) dX6_put_46 (by decide) ?_
      exact hr3.use
noncomputable def b_X6_puta {d : Nat} (P : zP d) : zK d := (xpI 24 (xist 2 (xloop (fun r3 => (lX6_puta_3 P r3)) 100000)))
set_option maxRecDepth 100000 in
set_option maxHeartbeats 4000000 in
theorem s_X6_puta {d : Nat} [zGh] (P : zP d) : zSim X_X6_put 1 P 0 (b_X6_puta P) := by
  unfold b_X6_puta
  refine sm_bipush (pc := 0) dX6_put_0 zc_b_24 ?_
  refine sm_istore_n (pc := 2) (n := 2) dX6_put_2 rfl ?_
  exact (sm_loopJ (j := 1) (fun G1 hG1 r3 hr3 => @slX6_puta_3 d G1 P r3 hr3) _).use
noncomputable def f_X6_puta {d : Nat} : List zV → zH d → zP d → Bool := zfn 3 b_X6_puta
theorem m_X6_puta {d : Nat} : zMet (d := d) X_X6_put yX6_put 1 f_X6_puta := zmet_mk (X := X_X6_put) (by decide) rfl rfl s_X6_puta

noncomputable def cX8_feeda_53 {d : Nat} (P : zP d) : zK d := (xcV 22 2 0 0 (zstr f_X6_puta) (xald 0 (xgfR 24 4 (xgfI 22 1 (xiret P)))))
set_option maxRecDepth 100000 in
set_option maxHeartbeats 4000000 in
theorem scX8_feeda_53 {d : Nat} [zGh] (P : zP d) : zSim X_X8_feed 2 P 53 (cX8_feeda_53 P) := by
  unfold cX8_feeda_53
  refine sm_cV (pc := 53) (ci := 6) (n := 2) (mc := 0) (ms := 0) rfl (zMet_str m_X6_puta) (cr_X8_82 (X := X_X8_feed) (fr := 2) (frc := 1) (pc := 53) (mc := 0) (ms := 0) rfl (by decide) dX8_feed_53) ?_
  refine sm_aload_n (pc := 56) (n := 0) dX8_feed_56 rfl ?_
  refine gf_X8_33 (pc := 57) rfl dX8_feed_57 ?_
  refine gf_X8_85 (pc := 60) rfl dX8_feed_60 ?_
  exact sm_ireturn (pc := 63) dX8_feed_63 rfl
noncomputable def b_X8_feeda {d : Nat} (P : zP d) : zK d := (xald 0 (xgfR 24 4 (xpI 20 (xcV 22 2 0 0 (zstr f_X6_hasRoom) (xif0S teqR rlEq rhEq rlNe rhNe (xpI 4294967295 (xiret P)) (xald 0 (xgfR 24 4 (xild 1 (xcV 22 2 0 0 (zstr f_X6_puta) (xald 0 (xgfR 24 4 (xild 2 (xcV 22 2 0 0 (zstr f_X6_puta) (xald 0 (xgfR 24 4 (xild 3 (xcV 22 2 0 0 (zstr f_X6_puta) (xald 0 (xgfR 24 4 (xild 4 (xcV 22 2 0 0 (zstr f_X6_puta) (xald 0 (xgfR 24 4 (xild 5 (cX8_feeda_53 P)))))))))))))))))))))))))
set_option maxRecDepth 100000 in
set_option maxHeartbeats 4000000 in
theorem s_X8_feeda {d : Nat} [zGh] (P : zP d) : zSim X_X8_feed 2 P 0 (b_X8_feeda P) := by
  unfold b_X8_feeda
  refine sm_aload_n (pc := 0) (n := 0) dX8_feed_0 rfl ?_
  refine gf_X8_33 (pc := 1) rfl dX8_feed_1 ?_
  refine sm_bipush (pc := 4) dX8_feed_4 zc_b_20 ?_
  refine sm_cV (pc := 6) (ci := 6) (n := 2) (mc := 0) (ms := 0) rfl (zMet_str m_X6_hasRoom) (cr_X8_78 (X := X_X8_feed) (fr := 2) (frc := 1) (pc := 6) (mc := 0) (ms := 0) rfl (by decide) dX8_feed_6) ?_
  refine sm_ifS_ne (pc := 9) (tgt := 14) dX8_feed_9 (by decide) ?_ ?_
  · skip
    refine sm_aload_n (pc := 14) (n := 0) dX8_feed_14 rfl ?_
    refine gf_X8_33 (pc := 15) rfl dX8_feed_15 ?_
    refine sm_iload_n (pc := 18) (n := 1) dX8_feed_18 rfl ?_
    refine sm_cV (pc := 19) (ci := 6) (n := 2) (mc := 0) (ms := 0) rfl (zMet_str m_X6_puta) (cr_X8_82 (X := X_X8_feed) (fr := 2) (frc := 1) (pc := 19) (mc := 0) (ms := 0) rfl (by decide) dX8_feed_19) ?_
    refine sm_aload_n (pc := 22) (n := 0) dX8_feed_22 rfl ?_
    refine gf_X8_33 (pc := 23) rfl dX8_feed_23 ?_
    refine sm_iload_n (pc := 26) (n := 2) dX8_feed_26 rfl ?_
    refine sm_cV (pc := 27) (ci := 6) (n := 2) (mc := 0) (ms := 0) rfl (zMet_str m_X6_puta) (cr_X8_82 (X := X_X8_feed) (fr := 2) (frc := 1) (pc := 27) (mc := 0) (ms := 0) rfl (by decide) dX8_feed_27) ?_
    refine sm_aload_n (pc := 30) (n := 0) dX8_feed_30 rfl ?_
    refine gf_X8_33 (pc := 31) rfl dX8_feed_31 ?_
    refine sm_iload_n (pc := 34) (n := 3) dX8_feed_34 rfl ?_
    refine sm_cV (pc := 35) (ci := 6) (n := 2) (mc := 0) (ms := 0) rfl (zMet_str m_X6_puta) (cr_X8_82 (X := X_X8_feed) (fr := 2) (frc := 1) (pc := 35) (mc := 0) (ms := 0) rfl (by decide) dX8_feed_35) ?_
    refine sm_aload_n (pc := 38) (n := 0) dX8_feed_38 rfl ?_
    refine gf_X8_33 (pc := 39) rfl dX8_feed_39 ?_
    refine sm_iload (pc := 42) (n := 4) dX8_feed_42 ?_
    refine sm_cV (pc := 44) (ci := 6) (n := 2) (mc := 0) (ms := 0) rfl (zMet_str m_X6_puta) (cr_X8_82 (X := X_X8_feed) (fr := 2) (frc := 1) (pc := 44) (mc := 0) (ms := 0) rfl (by decide) dX8_feed_44) ?_
    refine sm_aload_n (pc := 47) (n := 0) dX8_feed_47 rfl ?_
    refine gf_X8_33 (pc := 48) rfl dX8_feed_48 ?_
    refine sm_iload (pc := 51) (n := 5) dX8_feed_51 ?_
    exact scX8_feeda_53 P
  · skip
    refine sm_iconst (pc := 12) dX8_feed_12 zc_i_m1 ?_
    exact sm_ireturn (pc := 13) dX8_feed_13 rfl
noncomputable def f_X8_feeda {d : Nat} : List zV → zH d → zP d → Bool := zfn 6 b_X8_feeda
theorem m_X8_feeda {d : Nat} : zMet (d := d) X_X8_feed yX8_feed 2 f_X8_feeda := zmet_mk (X := X_X8_feed) (by decide) rfl rfl s_X8_feeda

noncomputable def bX8_enda_15 {d : Nat} (P : zP d) : zK d := (xpI 0 (xzret P))
set_option maxRecDepth 100000 in
set_option maxHeartbeats 4000000 in
theorem sbX8_enda_15 {d : Nat} [zGh] (P : zP d) : zSim X_X8_end 1 P 15 (bX8_enda_15 P) := by
  unfold bX8_enda_15
  refine sm_iconst (pc := 15) dX8_end_15 zc_i_0 ?_
  exact sm_zreturn (pc := 16) dX8_end_16 rfl
noncomputable def b_X8_enda {d : Nat} (P : zP d) : zK d := (xild 1 (xjoin (bX8_enda_15 P) (fun j15 => (xif0S tgeR rlGe rhS rlS rhLt (xild 1 (xald 0 (xgfR 24 4 (xgfI 22 1 (xcmpS tleR rlS rhLe rlGt rhS (xald 0 (xgfR 24 4 (xild 1 (xpfI 22 1 (xpI 1 (xzret P)))))) j15))))) j15))))
set_option maxRecDepth 100000 in
set_option maxHeartbeats 4000000 in
theorem s_X8_enda {d : Nat} [zGh] (P : zP d) : zSim X_X8_end 1 P 0 (b_X8_enda P) := by
  unfold b_X8_enda
  refine sm_iload_n (pc := 0) (n := 1) dX8_end_0 rfl ?_
  refine sm_joinJ (pc := 1) (pc' := 15) (j := 1) (fun G0 hG0 => @sbX8_enda_15 d G0 P) (fun j15 hj15 => ?_)
  refine sm_ifS_lt (pc := 1) (tgt := 15) dX8_end_1 (by decide) ?_ ?_
  · skip
    exact hj15.use
  · skip
    refine sm_iload_n (pc := 4) (n := 1) dX8_end_4 rfl ?_
    refine sm_aload_n (pc := 5) (n := 0) dX8_end_5 rfl ?_
    refine gf_X8_33 (pc := 6) rfl dX8_end_6 ?_
    refine gf_X8_85 (pc := 9) rfl dX8_end_9 ?_
    refine sm_icmpS_le (pc := 12) (tgt := 17) dX8_end_12 (by decide) ?_ ?_
    · skip
      refine sm_aload_n (pc := 17) (n := 0) dX8_end_17 rfl ?_
      refine gf_X8_33 (pc := 18) rfl dX8_end_18 ?_
      refine sm_iload_n (pc := 21) (n := 1) dX8_end_21 rfl ?_
      refine pf_X8_85 (pc := 22) rfl dX8_end_22 ?_
      refine sm_iconst (pc := 25) dX8_end_25 zc_i_1 ?_
      exact sm_zreturn (pc := 26) dX8_end_26 rfl
    · skip
      exact hj15.use
noncomputable def f_X8_enda {d : Nat} : List zV → zH d → zP d → Bool := zfn 2 b_X8_enda
theorem m_X8_enda {d : Nat} : zMet (d := d) X_X8_end yX8_end 1 f_X8_enda := zmet_mk (X := X_X8_end) (by decide) rfl rfl s_X8_enda

noncomputable def bX8_texta_62 {d : Nat} (P : zP d) : zK d := (xald 0 (xgfR 24 4 (xpI 0 (xpfI 22 1 (xild 2 (xiret P))))))
set_option maxRecDepth 100000 in
set_option maxHeartbeats 4000000 in
theorem sbX8_texta_62 {d : Nat} [zGh] (P : zP d) : zSim X_X8_text 30 P 62 (bX8_texta_62 P) := by
  unfold bX8_texta_62
  refine sm_aload_n (pc := 62) (n := 0) dX8_text_62 rfl ?_
  refine gf_X8_33 (pc := 63) rfl dX8_text_63 ?_
  refine sm_iconst (pc := 66) dX8_text_66 zc_i_0 ?_
  refine pf_X8_85 (pc := 67) rfl dX8_text_67 ?_
  refine sm_iload_n (pc := 70) (n := 2) dX8_text_70 rfl ?_
  exact sm_ireturn (pc := 71) dX8_text_71 rfl
noncomputable def cX8_texta_57 {d : Nat} (P : zP d) (j62 : zK d) : zK d := j62
set_option maxRecDepth 100000 in
set_option maxHeartbeats 4000000 in
theorem scX8_texta_57 {d : Nat} [zGh] (P : zP d) (j62 : zK d) (hj62 : zSimJ 1 X_X8_text 30 P 62 j62) : zSim X_X8_text 30 P 57 (cX8_texta_57 P j62) := by
  unfold cX8_texta_57
  refine sm_goto (pc := 57) (tgt := 62) dX8_text_57 (by decide) ?_
  exact hj62.use
noncomputable def b_X8_texta {d : Nat} (P : zP d) : zK d := (xpI 4294967294 (xist 2 (xild 1 (xcS 1 0 0 (zstr f_X8_isSlota) (xjoin (bX8_texta_62 P) (fun j62 => (xif0S teqR rlEq rhEq rlNe rhNe (xald 0 (xgfR 24 5 (xgfR 18 0 (xcV 17 1 0 0 (zstr f_X1_clear) j62)))) (xald 0 (xgfR 24 5 (xcV 18 1 0 0 (zstr f_X2_read) (xif0S teqR rlEq rhEq rlNe rhNe (xpI 4294967295 (xist 2 j62)) (xald 0 (xgfR 24 5 (xgfR 18 1 (xpI 0 (xaaT (xpI 0 (xald 0 (xgfR 24 2 (xild 1 (xaaT (xpI 0 (xpI 11 (xcpy 2 72 (xpI 0 (xist 2 (cX8_texta_57 P j62)))))))))))))))))))))))))))
set_option maxRecDepth 100000 in
set_option maxHeartbeats 4000000 in
theorem s_X8_texta {d : Nat} [zGh] (P : zP d) : zSim X_X8_text 30 P 0 (b_X8_texta P) := by
  unfold b_X8_texta
  refine sm_bipush (pc := 0) dX8_text_0 zc_b_m2 ?_
  refine sm_istore_n (pc := 2) (n := 2) dX8_text_2 rfl ?_
  refine sm_iload_n (pc := 3) (n := 1) dX8_text_3 rfl ?_
  refine sm_cS (pc := 4) (n := 1) (mc := 0) (ms := 0) (zMet_str m_X8_isSlota) (cr_X8_88 (X := X_X8_text) (fr := 30) (frc := 1) (pc := 4) (mc := 0) (ms := 0) rfl (by decide) dX8_text_4) ?_
  refine sm_joinJ (pc := 7) (pc' := 62) (j := 1) (fun G0 hG0 => @sbX8_texta_62 d G0 P) (fun j62 hj62 => ?_)
  refine sm_ifS_ne (pc := 7) (tgt := 23) dX8_text_7 (by decide) ?_ ?_
  · skip
    refine sm_aload_n (pc := 23) (n := 0) dX8_text_23 rfl ?_
    refine gf_X8_60 (pc := 24) rfl dX8_text_24 ?_
    refine sm_cV (pc := 27) (ci := 2) (n := 1) (mc := 0) (ms := 0) rfl (zMet_str m_X2_read) (cr_X8_100 (X := X_X8_text) (fr := 30) (frc := 29) (pc := 27) (mc := 0) (ms := 0) rfl (by decide) dX8_text_27) ?_
    refine sm_ifS_eq (pc := 30) (tgt := 60) dX8_text_30 (by decide) ?_ ?_
    · skip
      refine sm_iconst (pc := 60) dX8_text_60 zc_i_m1 ?_
      refine sm_istore_n (pc := 61) (n := 2) dX8_text_61 rfl ?_
      exact hj62.use
    · skip
      refine sm_aload_n (pc := 33) (n := 0) dX8_text_33 rfl ?_
      refine gf_X8_60 (pc := 34) rfl dX8_text_34 ?_
      refine gf_X8_104 (pc := 37) rfl dX8_text_37 ?_
      refine sm_iconst (pc := 40) dX8_text_40 zc_i_0 ?_
      refine sm_aaloadT (pc := 41) dX8_text_41 ?_
      refine sm_iconst (pc := 42) dX8_text_42 zc_i_0 ?_
      refine sm_aload_n (pc := 43) (n := 0) dX8_text_43 rfl ?_
      refine gf_X8_23 (pc := 44) rfl dX8_text_44 ?_
      refine sm_iload_n (pc := 47) (n := 1) dX8_text_47 rfl ?_
      refine sm_aaloadT (pc := 48) dX8_text_48 ?_
      refine sm_iconst (pc := 49) dX8_text_49 zc_i_0 ?_
      refine sm_bipush (pc := 50) dX8_text_50 zc_b_11 ?_
      refine sm_copyJ (pc := 52) wd_771 wd_80 wd_79 wd_7 (by decide) dX8_text_52 ?_
      refine sm_iconst (pc := 55) dX8_text_55 zc_i_0 ?_
      refine sm_istore_n (pc := 56) (n := 2) dX8_text_56 rfl ?_
      exact scX8_texta_57 P j62 hj62
  · skip
    refine sm_aload_n (pc := 10) (n := 0) dX8_text_10 rfl ?_
    refine gf_X8_60 (pc := 11) rfl dX8_text_11 ?_
    refine gf_X8_91 (pc := 14) rfl dX8_text_14 ?_
    refine sm_cV (pc := 17) (ci := 1) (n := 1) (mc := 0) (ms := 0) rfl (zMet_str m_X1_clear) (cr_X8_95 (X := X_X8_text) (fr := 30) (frc := 1) (pc := 17) (mc := 0) (ms := 0) rfl (by decide) dX8_text_17) ?_
    refine sm_goto (pc := 20) (tgt := 62) dX8_text_20 (by decide) ?_
    exact hj62.use
noncomputable def f_X8_texta {d : Nat} : List zV → zH d → zP d → Bool := zfn 3 b_X8_texta
theorem m_X8_texta {d : Nat} : zMet (d := d) X_X8_text yX8_text 30 f_X8_texta := zmet_mk (X := X_X8_text) (by decide) rfl rfl s_X8_texta

noncomputable def bX8_faulta_68 {d : Nat} (P : zP d) : zK d := (xpI 4294967295 (xiret P))
set_option maxRecDepth 100000 in
set_option maxHeartbeats 4000000 in
theorem sbX8_faulta_68 {d : Nat} [zGh] (P : zP d) : zSim X_X8_fault 1 P 68 (bX8_faulta_68 P) := by
  unfold bX8_faulta_68
  refine sm_iconst (pc := 68) dX8_fault_68 zc_i_m1 ?_
  exact sm_ireturn (pc := 69) dX8_fault_69 rfl
noncomputable def bX8_faulta_51 {d : Nat} (P : zP d) : zK d := (xild 1 (xpI 10 (xjoin (bX8_faulta_68 P) (fun j68 => (xcmpS tgeR rlGe rhS rlS rhLt (xild 1 (xpI 10 (xbin zsubR (xald 2 (xgfI 17 3 (xcmpS tgeR rlGe rhS rlS rhLt j68 (xald 2 (xgfR 17 2 (xild 1 (xpI 10 (xbin zsubR (xalQ 0 (xiret P))))))))))))) j68)))))
set_option maxRecDepth 100000 in
set_option maxHeartbeats 4000000 in
theorem sbX8_faulta_51 {d : Nat} [zGh] (P : zP d) : zSim X_X8_fault 1 P 51 (bX8_faulta_51 P) := by
  unfold bX8_faulta_51
  refine sm_iload_n (pc := 51) (n := 1) dX8_fault_51 rfl ?_
  refine sm_bipush (pc := 52) dX8_fault_52 zc_b_10 ?_
  refine sm_joinJ (pc := 54) (pc' := 68) (j := 1) (fun G0 hG0 => @sbX8_faulta_68 d G0 P) (fun j68 hj68 => ?_)
  refine sm_icmpS_lt (pc := 54) (tgt := 68) dX8_fault_54 (by decide) ?_ ?_
  · skip
    exact hj68.use
  · skip
    refine sm_iload_n (pc := 57) (n := 1) dX8_fault_57 rfl ?_
    refine sm_bipush (pc := 58) dX8_fault_58 zc_b_10 ?_
    refine sm_isubR (pc := 60) dX8_fault_60 ?_
    refine sm_aload_n (pc := 61) (n := 2) dX8_fault_61 rfl ?_
    refine gf_X8_119 (pc := 62) rfl dX8_fault_62 ?_
    refine sm_icmpS_lt (pc := 65) (tgt := 70) dX8_fault_65 (by decide) ?_ ?_
    · skip
      refine sm_aload_n (pc := 70) (n := 2) dX8_fault_70 rfl ?_
      refine gf_X8_122 (pc := 71) rfl dX8_fault_71 ?_
      refine sm_iload_n (pc := 74) (n := 1) dX8_fault_74 rfl ?_
      refine sm_bipush (pc := 75) dX8_fault_75 zc_b_10 ?_
      refine sm_isubR (pc := 77) dX8_fault_77 ?_
      refine sm_ialoadQ (pc := 78) dX8_fault_78 ?_
      exact sm_ireturn (pc := 79) dX8_fault_79 rfl
    · skip
      exact hj68.use
noncomputable def bX8_faulta_36 {d : Nat} (P : zP d) : zK d := (xald 2 (xgfI 17 0 (xiret P)))
set_option maxRecDepth 100000 in
set_option maxHeartbeats 4000000 in
theorem sbX8_faulta_36 {d : Nat} [zGh] (P : zP d) : zSim X_X8_fault 1 P 36 (bX8_faulta_36 P) := by
  unfold bX8_faulta_36
  refine sm_aload_n (pc := 36) (n := 2) dX8_fault_36 rfl ?_
  refine gf_X8_113 (pc := 37) rfl dX8_fault_37 ?_
  exact sm_ireturn (pc := 40) dX8_fault_40 rfl
noncomputable def bX8_faulta_41 {d : Nat} (P : zP d) : zK d := (xald 2 (xgfI 17 1 (xiret P)))
set_option maxRecDepth 100000 in
set_option maxHeartbeats 4000000 in
theorem sbX8_faulta_41 {d : Nat} [zGh] (P : zP d) : zSim X_X8_fault 1 P 41 (bX8_faulta_41 P) := by
  unfold bX8_faulta_41
  refine sm_aload_n (pc := 41) (n := 2) dX8_fault_41 rfl ?_
  refine gf_X8_116 (pc := 42) rfl dX8_fault_42 ?_
  exact sm_ireturn (pc := 45) dX8_fault_45 rfl
noncomputable def bX8_faulta_46 {d : Nat} (P : zP d) : zK d := (xald 2 (xgfI 17 3 (xiret P)))
set_option maxRecDepth 100000 in
set_option maxHeartbeats 4000000 in
theorem sbX8_faulta_46 {d : Nat} [zGh] (P : zP d) : zSim X_X8_fault 1 P 46 (bX8_faulta_46 P) := by
  unfold bX8_faulta_46
  refine sm_aload_n (pc := 46) (n := 2) dX8_fault_46 rfl ?_
  refine gf_X8_119 (pc := 47) rfl dX8_fault_47 ?_
  exact sm_ireturn (pc := 50) dX8_fault_50 rfl
noncomputable def b_X8_faulta {d : Nat} (P : zP d) : zK d := (xald 0 (xgfR 24 5 (xgfR 18 0 (xast 2 (xild 1 (xtswR 2 [(bX8_faulta_36 P), (bX8_faulta_41 P), (bX8_faulta_46 P)] (bX8_faulta_51 P)))))))
set_option maxRecDepth 100000 in
set_option maxHeartbeats 4000000 in
theorem s_X8_faulta {d : Nat} [zGh] (P : zP d) : zSim X_X8_fault 1 P 0 (b_X8_faulta P) := by
  unfold b_X8_faulta
  refine sm_aload_n (pc := 0) (n := 0) dX8_fault_0 rfl ?_
  refine gf_X8_60 (pc := 1) rfl dX8_fault_1 ?_
  refine gf_X8_91 (pc := 4) rfl dX8_fault_4 ?_
  refine sm_astore_n (pc := 7) (n := 2) dX8_fault_7 rfl ?_
  refine sm_iload_n (pc := 8) (n := 1) dX8_fault_8 rfl ?_
  exact sm_tswR (pc := 9) (n := 2) (tdf := 51) [36, 41, 46] rfl (by decide) dX8_fault_9 rfl (by decide +kernel) (by decide) (sbX8_faulta_51 P) ⟨sbX8_faulta_36 P, sbX8_faulta_41 P, sbX8_faulta_46 P, trivial⟩
noncomputable def f_X8_faulta {d : Nat} : List zV → zH d → zP d → Bool := zfn 3 b_X8_faulta
theorem m_X8_faulta {d : Nat} : zMet (d := d) X_X8_fault yX8_fault 1 f_X8_faulta := zmet_mk (X := X_X8_fault) (by decide) rfl rfl s_X8_faulta

noncomputable def bX8_partitiona_13 {d : Nat} (P : zP d) : zK d := (xpI 4294967295 (xiret P))
set_option maxRecDepth 100000 in
set_option maxHeartbeats 4000000 in
theorem sbX8_partitiona_13 {d : Nat} [zGh] (P : zP d) : zSim X_X8_partition 2 P 13 (bX8_partitiona_13 P) := by
  unfold bX8_partitiona_13
  refine sm_iconst (pc := 13) dX8_partition_13 zc_i_m1 ?_
  exact sm_ireturn (pc := 14) dX8_partition_14 rfl
noncomputable def bX8_partitiona_45 {d : Nat} (P : zP d) : zK d := (xiret P)
set_option maxRecDepth 100000 in
set_option maxHeartbeats 4000000 in
theorem sbX8_partitiona_45 {d : Nat} [zGh] (P : zP d) : zSim X_X8_partition 2 P 45 (bX8_partitiona_45 P) := by
  unfold bX8_partitiona_45
  exact sm_ireturn (pc := 45) dX8_partition_45 rfl
noncomputable def b_X8_partitiona {d : Nat} (P : zP d) : zK d := (xald 0 (xild 1 (xcV 24 2 0 0 (zstr f_X8_isPartitiona) (xjoin (bX8_partitiona_13 P) (fun j13 => (xif0S teqR rlEq rhEq rlNe rhNe j13 (xild 2 (xpI 4294967295 (xcmpS tgeR rlGe rhS rlS rhLt (xald 0 (xgfR 24 6 (xgfR 23 3 (xild 1 (xaaT (xast 3 (xild 2 (xpI 4294967295 (xjoin (bX8_partitiona_45 P) (fun j45 => (xcmpS teqR rlEq rhEq rlNe rhNe (xald 3 (xgfI 20 1 j45)) (xald 3 (xgfR 20 2 (xild 2 (xcS 2 0 0 (zstr f_X8_partAta) j45))))))))))))))) j13)))))))))
set_option maxRecDepth 100000 in
set_option maxHeartbeats 4000000 in
theorem s_X8_partitiona {d : Nat} [zGh] (P : zP d) : zSim X_X8_partition 2 P 0 (b_X8_partitiona P) := by
  unfold b_X8_partitiona
  refine sm_aload_n (pc := 0) (n := 0) dX8_partition_0 rfl ?_
  refine sm_iload_n (pc := 1) (n := 1) dX8_partition_1 rfl ?_
  refine sm_cV (pc := 2) (ci := 8) (n := 2) (mc := 0) (ms := 0) rfl (zMet_str m_X8_isPartitiona) (cr_X8_126 (X := X_X8_partition) (fr := 2) (frc := 1) (pc := 2) (mc := 0) (ms := 0) rfl (by decide) dX8_partition_2) ?_
  refine sm_joinJ (pc := 5) (pc' := 13) (j := 1) (fun G0 hG0 => @sbX8_partitiona_13 d G0 P) (fun j13 hj13 => ?_)
  refine sm_ifS_eq (pc := 5) (tgt := 13) dX8_partition_5 (by decide) ?_ ?_
  · skip
    exact hj13.use
  · skip
    refine sm_iload_n (pc := 8) (n := 2) dX8_partition_8 rfl ?_
    refine sm_iconst (pc := 9) dX8_partition_9 zc_i_m1 ?_
    refine sm_icmpS_ge (pc := 10) (tgt := 15) dX8_partition_10 (by decide) ?_ ?_
    · skip
      refine sm_aload_n (pc := 15) (n := 0) dX8_partition_15 rfl ?_
      refine gf_X8_40 (pc := 16) rfl dX8_partition_16 ?_
      refine gf_X8_129 (pc := 19) rfl dX8_partition_19 ?_
      refine sm_iload_n (pc := 22) (n := 1) dX8_partition_22 rfl ?_
      refine sm_aaloadT (pc := 23) dX8_partition_23 ?_
      refine sm_astore_n (pc := 24) (n := 3) dX8_partition_24 rfl ?_
      refine sm_iload_n (pc := 25) (n := 2) dX8_partition_25 rfl ?_
      refine sm_iconst (pc := 26) dX8_partition_26 zc_i_m1 ?_
      refine sm_joinJ (pc := 27) (pc' := 45) (j := 1) (fun G0 hG0 => @sbX8_partitiona_45 d G0 P) (fun j45 hj45 => ?_)
      refine sm_icmpS_ne (pc := 27) (tgt := 37) dX8_partition_27 (by decide) ?_ ?_
      · skip
        refine sm_aload_n (pc := 37) (n := 3) dX8_partition_37 rfl ?_
        refine gf_X8_138 (pc := 38) rfl dX8_partition_38 ?_
        refine sm_iload_n (pc := 41) (n := 2) dX8_partition_41 rfl ?_
        refine sm_cS (pc := 42) (n := 2) (mc := 0) (ms := 0) (zMet_str m_X8_partAta) (cr_X8_141 (X := X_X8_partition) (fr := 2) (frc := 1) (pc := 42) (mc := 0) (ms := 0) rfl (by decide) dX8_partition_42) ?_
        exact hj45.use
      · skip
        refine sm_aload_n (pc := 30) (n := 3) dX8_partition_30 rfl ?_
        refine gf_X8_133 (pc := 31) rfl dX8_partition_31 ?_
        refine sm_goto (pc := 34) (tgt := 45) dX8_partition_34 (by decide) ?_
        exact hj45.use
    · skip
      exact hj13.use
noncomputable def f_X8_partitiona {d : Nat} : List zV → zH d → zP d → Bool := zfn 4 b_X8_partitiona
theorem m_X8_partitiona {d : Nat} : zMet (d := d) X_X8_partition yX8_partition 2 f_X8_partitiona := zmet_mk (X := X_X8_partition) (by decide) rfl rfl s_X8_partitiona

noncomputable def bX8_ofa_159 {d : Nat} (P : zP d) : zK d := (xpI 4294967295 (xiret P))
set_option maxRecDepth 100000 in
set_option maxHeartbeats 4000000 in
theorem sbX8_ofa_159 {d : Nat} [zGh] (P : zP d) : zSim X_X8_of 2 P 159 (bX8_ofa_159 P) := by
  unfold bX8_ofa_159
  refine sm_iconst (pc := 159) dX8_of_159 zc_i_m1 ?_
  exact sm_ireturn (pc := 160) dX8_of_160 rfl
noncomputable def bX8_ofa_56 {d : Nat} (P : zP d) : zK d := (xald 0 (xgfR 24 7 (xild 1 (xcV 21 2 0 0 (zstr f_X5_isRegular) (xcS 1 0 0 (zstr f_X8_bit) (xiret P))))))
set_option maxRecDepth 100000 in
set_option maxHeartbeats 4000000 in
theorem sbX8_ofa_56 {d : Nat} [zGh] (P : zP d) : zSim X_X8_of 2 P 56 (bX8_ofa_56 P) := by
  unfold bX8_ofa_56
  refine sm_aload_n (pc := 56) (n := 0) dX8_of_56 rfl ?_
  refine gf_X8_47 (pc := 57) rfl dX8_of_57 ?_
  refine sm_iload_n (pc := 60) (n := 1) dX8_of_60 rfl ?_
  refine sm_cV (pc := 61) (ci := 5) (n := 2) (mc := 0) (ms := 0) rfl (zMet_str m_X5_isRegular) (cr_X8_145 (X := X_X8_of) (fr := 2) (frc := 1) (pc := 61) (mc := 0) (ms := 0) rfl (by decide) dX8_of_61) ?_
  refine sm_cS (pc := 64) (n := 1) (mc := 0) (ms := 0) (zMet_str m_X8_bit) (cr_X8_148 (X := X_X8_of) (fr := 2) (frc := 1) (pc := 64) (mc := 0) (ms := 0) rfl (by decide) dX8_of_64) ?_
  exact sm_ireturn (pc := 67) dX8_of_67 rfl
noncomputable def bX8_ofa_68 {d : Nat} (P : zP d) : zK d := (xald 0 (xgfR 24 7 (xgfR 21 10 (xgfR 16 0 (xild 1 (xalQ 0 (xiret P)))))))
set_option maxRecDepth 100000 in
set_option maxHeartbeats 4000000 in
theorem sbX8_ofa_68 {d : Nat} [zGh] (P : zP d) : zSim X_X8_of 2 P 68 (bX8_ofa_68 P) := by
  unfold bX8_ofa_68
  refine sm_aload_n (pc := 68) (n := 0) dX8_of_68 rfl ?_
  refine gf_X8_47 (pc := 69) rfl dX8_of_69 ?_
  refine gf_X8_152 (pc := 72) rfl dX8_of_72 ?_
  refine gf_X8_156 (pc := 75) rfl dX8_of_75 ?_
  refine sm_iload_n (pc := 78) (n := 1) dX8_of_78 rfl ?_
  refine sm_ialoadQ (pc := 79) dX8_of_79 ?_
  exact sm_ireturn (pc := 80) dX8_of_80 rfl
noncomputable def bX8_ofa_81 {d : Nat} (P : zP d) : zK d := (xald 0 (xgfR 24 7 (xgfR 21 10 (xgfR 16 2 (xild 1 (xalQ 0 (xiret P)))))))
set_option maxRecDepth 100000 in
set_option maxHeartbeats 4000000 in
theorem sbX8_ofa_81 {d : Nat} [zGh] (P : zP d) : zSim X_X8_of 2 P 81 (bX8_ofa_81 P) := by
  unfold bX8_ofa_81
  refine sm_aload_n (pc := 81) (n := 0) dX8_of_81 rfl ?_
  refine gf_X8_47 (pc := 82) rfl dX8_of_82 ?_
  refine gf_X8_152 (pc := 85) rfl dX8_of_85 ?_
  refine gf_X8_161 (pc := 88) rfl dX8_of_88 ?_
  refine sm_iload_n (pc := 91) (n := 1) dX8_of_91 rfl ?_
  refine sm_ialoadQ (pc := 92) dX8_of_92 ?_
  exact sm_ireturn (pc := 93) dX8_of_93 rfl
noncomputable def bX8_ofa_94 {d : Nat} (P : zP d) : zK d := (xald 0 (xgfR 24 6 (xgfR 23 3 (xild 1 (xaaT (xgfI 20 5 (xiret P)))))))
set_option maxRecDepth 100000 in
set_option maxHeartbeats 4000000 in
theorem sbX8_ofa_94 {d : Nat} [zGh] (P : zP d) : zSim X_X8_of 2 P 94 (bX8_ofa_94 P) := by
  unfold bX8_ofa_94
  refine sm_aload_n (pc := 94) (n := 0) dX8_of_94 rfl ?_
  refine gf_X8_40 (pc := 95) rfl dX8_of_95 ?_
  refine gf_X8_129 (pc := 98) rfl dX8_of_98 ?_
  refine sm_iload_n (pc := 101) (n := 1) dX8_of_101 rfl ?_
  refine sm_aaloadT (pc := 102) dX8_of_102 ?_
  refine gf_X8_164 (pc := 103) rfl dX8_of_103 ?_
  exact sm_ireturn (pc := 106) dX8_of_106 rfl
noncomputable def bX8_ofa_107 {d : Nat} (P : zP d) : zK d := (xald 0 (xgfR 24 7 (xgfR 21 5 (xild 1 (xalQ 0 (xiret P))))))
set_option maxRecDepth 100000 in
set_option maxHeartbeats 4000000 in
theorem sbX8_ofa_107 {d : Nat} [zGh] (P : zP d) : zSim X_X8_of 2 P 107 (bX8_ofa_107 P) := by
  unfold bX8_ofa_107
  refine sm_aload_n (pc := 107) (n := 0) dX8_of_107 rfl ?_
  refine gf_X8_47 (pc := 108) rfl dX8_of_108 ?_
  refine gf_X8_167 (pc := 111) rfl dX8_of_111 ?_
  refine sm_iload_n (pc := 114) (n := 1) dX8_of_114 rfl ?_
  refine sm_ialoadQ (pc := 115) dX8_of_115 ?_
  exact sm_ireturn (pc := 116) dX8_of_116 rfl
noncomputable def bX8_ofa_117 {d : Nat} (P : zP d) : zK d := (xald 0 (xgfR 24 6 (xgfR 23 4 (xild 1 (xalQ 0 (xiret P))))))
set_option maxRecDepth 100000 in
set_option maxHeartbeats 4000000 in
theorem sbX8_ofa_117 {d : Nat} [zGh] (P : zP d) : zSim X_X8_of 2 P 117 (bX8_ofa_117 P) := by
  unfold bX8_ofa_117
  refine sm_aload_n (pc := 117) (n := 0) dX8_of_117 rfl ?_
  refine gf_X8_40 (pc := 118) rfl dX8_of_118 ?_
  refine gf_X8_170 (pc := 121) rfl dX8_of_121 ?_
  refine sm_iload_n (pc := 124) (n := 1) dX8_of_124 rfl ?_
  refine sm_ialoadQ (pc := 125) dX8_of_125 ?_
  exact sm_ireturn (pc := 126) dX8_of_126 rfl
noncomputable def bX8_ofa_145 {d : Nat} (P : zP d) : zK d := (xcS 1 0 0 (zstr f_X8_bit) (xiret P))
set_option maxRecDepth 100000 in
set_option maxHeartbeats 4000000 in
theorem sbX8_ofa_145 {d : Nat} [zGh] (P : zP d) : zSim X_X8_of 2 P 145 (bX8_ofa_145 P) := by
  unfold bX8_ofa_145
  refine sm_cS (pc := 145) (n := 1) (mc := 0) (ms := 0) (zMet_str m_X8_bit) (cr_X8_148 (X := X_X8_of) (fr := 2) (frc := 1) (pc := 145) (mc := 0) (ms := 0) rfl (by decide) dX8_of_145) ?_
  exact sm_ireturn (pc := 148) dX8_of_148 rfl
noncomputable def bX8_ofa_127 {d : Nat} (P : zP d) : zK d := (xald 0 (xgfR 24 6 (xgfR 23 4 (xild 1 (xalQ 0 (xild 1 (xjoin (bX8_ofa_145 P) (fun j145 => (xcmpS teqR rlEq rhEq rlNe rhNe (xpI 1 j145) (xpI 0 j145))))))))))
set_option maxRecDepth 100000 in
set_option maxHeartbeats 4000000 in
theorem sbX8_ofa_127 {d : Nat} [zGh] (P : zP d) : zSim X_X8_of 2 P 127 (bX8_ofa_127 P) := by
  unfold bX8_ofa_127
  refine sm_aload_n (pc := 127) (n := 0) dX8_of_127 rfl ?_
  refine gf_X8_40 (pc := 128) rfl dX8_of_128 ?_
  refine gf_X8_170 (pc := 131) rfl dX8_of_131 ?_
  refine sm_iload_n (pc := 134) (n := 1) dX8_of_134 rfl ?_
  refine sm_ialoadQ (pc := 135) dX8_of_135 ?_
  refine sm_iload_n (pc := 136) (n := 1) dX8_of_136 rfl ?_
  refine sm_joinJ (pc := 137) (pc' := 145) (j := 1) (fun G0 hG0 => @sbX8_ofa_145 d G0 P) (fun j145 hj145 => ?_)
  refine sm_icmpS_ne (pc := 137) (tgt := 144) dX8_of_137 (by decide) ?_ ?_
  · skip
    refine sm_iconst (pc := 144) dX8_of_144 zc_i_0 ?_
    exact hj145.use
  · skip
    refine sm_iconst (pc := 140) dX8_of_140 zc_i_1 ?_
    refine sm_goto (pc := 141) (tgt := 145) dX8_of_141 (by decide) ?_
    exact hj145.use
noncomputable def bX8_ofa_149 {d : Nat} (P : zP d) : zK d := (xald 0 (xgfR 24 7 (xgfR 21 2 (xild 1 (xalQ 0 (xiret P))))))
set_option maxRecDepth 100000 in
set_option maxHeartbeats 4000000 in
theorem sbX8_ofa_149 {d : Nat} [zGh] (P : zP d) : zSim X_X8_of 2 P 149 (bX8_ofa_149 P) := by
  unfold bX8_ofa_149
  refine sm_aload_n (pc := 149) (n := 0) dX8_of_149 rfl ?_
  refine gf_X8_47 (pc := 150) rfl dX8_of_150 ?_
  refine gf_X8_173 (pc := 153) rfl dX8_of_153 ?_
  refine sm_iload_n (pc := 156) (n := 1) dX8_of_156 rfl ?_
  refine sm_ialoadQ (pc := 157) dX8_of_157 ?_
  exact sm_ireturn (pc := 158) dX8_of_158 rfl
noncomputable def b_X8_ofa {d : Nat} (P : zP d) : zK d := (xald 0 (xild 1 (xcV 24 2 0 0 (zstr f_X8_isPartitiona) (xif0S teqR rlEq rhEq rlNe rhNe (xpI 4294967295 (xiret P)) (xild 2 (xtswR 7 [(bX8_ofa_56 P), (bX8_ofa_68 P), (bX8_ofa_81 P), (bX8_ofa_94 P), (bX8_ofa_107 P), (bX8_ofa_117 P), (bX8_ofa_127 P), (bX8_ofa_149 P)] (bX8_ofa_159 P)))))))
set_option maxRecDepth 100000 in
set_option maxHeartbeats 4000000 in
theorem s_X8_ofa {d : Nat} [zGh] (P : zP d) : zSim X_X8_of 2 P 0 (b_X8_ofa P) := by
  unfold b_X8_ofa
  refine sm_aload_n (pc := 0) (n := 0) dX8_of_0 rfl ?_
  refine sm_iload_n (pc := 1) (n := 1) dX8_of_1 rfl ?_
  refine sm_cV (pc := 2) (ci := 8) (n := 2) (mc := 0) (ms := 0) rfl (zMet_str m_X8_isPartitiona) (cr_X8_126 (X := X_X8_of) (fr := 2) (frc := 1) (pc := 2) (mc := 0) (ms := 0) rfl (by decide) dX8_of_2) ?_
  refine sm_ifS_ne (pc := 5) (tgt := 10) dX8_of_5 (by decide) ?_ ?_
  · skip
    refine sm_iload_n (pc := 10) (n := 2) dX8_of_10 rfl ?_
    exact sm_tswR (pc := 11) (n := 7) (tdf := 159) [56, 68, 81, 94, 107, 117, 127, 149] rfl (by decide) dX8_of_11 rfl (by decide +kernel) (by decide) (sbX8_ofa_159 P) ⟨sbX8_ofa_56 P, sbX8_ofa_68 P, sbX8_ofa_81 P, sbX8_ofa_94 P, sbX8_ofa_107 P, sbX8_ofa_117 P, sbX8_ofa_127 P, sbX8_ofa_149 P, trivial⟩
  · skip
    refine sm_iconst (pc := 8) dX8_of_8 zc_i_m1 ?_
    exact sm_ireturn (pc := 9) dX8_of_9 rfl
noncomputable def f_X8_ofa {d : Nat} : List zV → zH d → zP d → Bool := zfn 3 b_X8_ofa
theorem m_X8_ofa {d : Nat} : zMet (d := d) X_X8_of yX8_of 2 f_X8_ofa := zmet_mk (X := X_X8_of) (by decide) rfl rfl s_X8_ofa

noncomputable def bX8_corea_13 {d : Nat} (P : zP d) : zK d := (xpI 4294967295 (xiret P))
set_option maxRecDepth 100000 in
set_option maxHeartbeats 4000000 in
theorem sbX8_corea_13 {d : Nat} [zGh] (P : zP d) : zSim X_X8_core 2 P 13 (bX8_corea_13 P) := by
  unfold bX8_corea_13
  refine sm_iconst (pc := 13) dX8_core_13 zc_i_m1 ?_
  exact sm_ireturn (pc := 14) dX8_core_14 rfl
noncomputable def bX8_corea_63 {d : Nat} (P : zP d) : zK d := (xiret P)
set_option maxRecDepth 100000 in
set_option maxHeartbeats 4000000 in
theorem sbX8_corea_63 {d : Nat} [zGh] (P : zP d) : zSim X_X8_core 2 P 63 (bX8_corea_63 P) := by
  unfold bX8_corea_63
  exact sm_ireturn (pc := 63) dX8_core_63 rfl
noncomputable def cX8_corea_48 {d : Nat} (P : zP d) (j63 : zK d) : zK d := (xbin zmulR (xbin zsubR j63))
set_option maxRecDepth 100000 in
set_option maxHeartbeats 4000000 in
theorem scX8_corea_48 {d : Nat} [zGh] (P : zP d) (j63 : zK d) (hj63 : zSimJ 1 X_X8_core 2 P 63 j63) : zSim X_X8_core 2 P 48 (cX8_corea_48 P j63) := by
  unfold cX8_corea_48
  refine sm_imulR (pc := 48) dX8_core_48 ?_
  refine sm_isubR (pc := 49) dX8_core_49 ?_
  refine sm_goto (pc := 50) (tgt := 63) dX8_core_50 (by decide) ?_
  exact hj63.use
noncomputable def b_X8_corea {d : Nat} (P : zP d) : zK d := (xald 0 (xild 1 (xcV 24 2 0 0 (zstr f_X8_isPartitiona) (xjoin (bX8_corea_13 P) (fun j13 => (xif0S teqR rlEq rhEq rlNe rhNe j13 (xild 2 (xpI 4294967295 (xcmpS tgeR rlGe rhS rlS rhLt (xald 0 (xgfR 24 7 (xgfR 21 10 (xast 3 (xild 2 (xpI 4294967295 (xjoin (bX8_corea_63 P) (fun j63 => (xcmpS teqR rlEq rhEq rlNe rhNe (xald 0 (xgfR 24 6 (xgfI 23 0 (xald 0 (xgfR 24 7 (xgfI 21 1 (xald 3 (xgfR 16 0 (xild 1 (xalQ 0 (cX8_corea_48 P j63))))))))))) (xald 3 (xgfR 16 1 (xild 1 (xaaT (xild 2 (xcS 2 0 0 (zstr f_X8_partAta) j63))))))))))))))) j13)))))))))
set_option maxRecDepth 100000 in
set_option maxHeartbeats 4000000 in
theorem s_X8_corea {d : Nat} [zGh] (P : zP d) : zSim X_X8_core 2 P 0 (b_X8_corea P) := by
  unfold b_X8_corea
  refine sm_aload_n (pc := 0) (n := 0) dX8_core_0 rfl ?_
  refine sm_iload_n (pc := 1) (n := 1) dX8_core_1 rfl ?_
  refine sm_cV (pc := 2) (ci := 8) (n := 2) (mc := 0) (ms := 0) rfl (zMet_str m_X8_isPartitiona) (cr_X8_126 (X := X_X8_core) (fr := 2) (frc := 1) (pc := 2) (mc := 0) (ms := 0) rfl (by decide) dX8_core_2) ?_
  refine sm_joinJ (pc := 5) (pc' := 13) (j := 1) (fun G0 hG0 => @sbX8_corea_13 d G0 P) (fun j13 hj13 => ?_)
  refine sm_ifS_eq (pc := 5) (tgt := 13) dX8_core_5 (by decide) ?_ ?_
  · skip
    exact hj13.use
  · skip
    refine sm_iload_n (pc := 8) (n := 2) dX8_core_8 rfl ?_
    refine sm_iconst (pc := 9) dX8_core_9 zc_i_m1 ?_
    refine sm_icmpS_ge (pc := 10) (tgt := 15) dX8_core_10 (by decide) ?_ ?_
    · skip
      refine sm_aload_n (pc := 15) (n := 0) dX8_core_15 rfl ?_
      refine gf_X8_47 (pc := 16) rfl dX8_core_16 ?_
      refine gf_X8_152 (pc := 19) rfl dX8_core_19 ?_
      refine sm_astore_n (pc := 22) (n := 3) dX8_core_22 rfl ?_
      refine sm_iload_n (pc := 23) (n := 2) dX8_core_23 rfl ?_
      refine sm_iconst (pc := 24) dX8_core_24 zc_i_m1 ?_
      refine sm_joinJ (pc := 25) (pc' := 63) (j := 1) (fun G0 hG0 => @sbX8_corea_63 d G0 P) (fun j63 hj63 => ?_)
      refine sm_icmpS_ne (pc := 25) (tgt := 53) dX8_core_25 (by decide) ?_ ?_
      · skip
        refine sm_aload_n (pc := 53) (n := 3) dX8_core_53 rfl ?_
        refine gf_X8_182 (pc := 54) rfl dX8_core_54 ?_
        refine sm_iload_n (pc := 57) (n := 1) dX8_core_57 rfl ?_
        refine sm_aaloadT (pc := 58) dX8_core_58 ?_
        refine sm_iload_n (pc := 59) (n := 2) dX8_core_59 rfl ?_
        refine sm_cS (pc := 60) (n := 2) (mc := 0) (ms := 0) (zMet_str m_X8_partAta) (cr_X8_141 (X := X_X8_core) (fr := 2) (frc := 1) (pc := 60) (mc := 0) (ms := 0) rfl (by decide) dX8_core_60) ?_
        exact hj63.use
      · skip
        refine sm_aload_n (pc := 28) (n := 0) dX8_core_28 rfl ?_
        refine gf_X8_40 (pc := 29) rfl dX8_core_29 ?_
        refine gf_X8_176 (pc := 32) rfl dX8_core_32 ?_
        refine sm_aload_n (pc := 35) (n := 0) dX8_core_35 rfl ?_
        refine gf_X8_47 (pc := 36) rfl dX8_core_36 ?_
        refine gf_X8_179 (pc := 39) rfl dX8_core_39 ?_
        refine sm_aload_n (pc := 42) (n := 3) dX8_core_42 rfl ?_
        refine gf_X8_156 (pc := 43) rfl dX8_core_43 ?_
        refine sm_iload_n (pc := 46) (n := 1) dX8_core_46 rfl ?_
        refine sm_ialoadQ (pc := 47) dX8_core_47 ?_
        exact scX8_corea_48 P j63 hj63
    · skip
      exact hj13.use
noncomputable def f_X8_corea {d : Nat} : List zV → zH d → zP d → Bool := zfn 4 b_X8_corea
theorem m_X8_corea {d : Nat} : zMet (d := d) X_X8_core yX8_core 2 f_X8_corea := zmet_mk (X := X_X8_core) (by decide) rfl rfl s_X8_corea

noncomputable def bX8_hooka_25 {d : Nat} (P : zP d) : zK d := (xpI 4294967295 (xiret P))
set_option maxRecDepth 100000 in
set_option maxHeartbeats 4000000 in
theorem sbX8_hooka_25 {d : Nat} [zGh] (P : zP d) : zSim X_X8_hook 2 P 25 (bX8_hooka_25 P) := by
  unfold bX8_hooka_25
  refine sm_iconst (pc := 25) dX8_hook_25 zc_i_m1 ?_
  exact sm_ireturn (pc := 26) dX8_hook_26 rfl
noncomputable def b_X8_hooka {d : Nat} (P : zP d) : zK d := (xald 0 (xild 1 (xcV 24 2 0 0 (zstr f_X8_isPartitiona) (xjoin (bX8_hooka_25 P) (fun j25 => (xif0S teqR rlEq rhEq rlNe rhNe j25 (xald 0 (xgfR 24 6 (xgfR 23 3 (xild 1 (xaaT (xild 2 (xild 3 (xcV 20 3 0 0 (zstr f_X4_hasCella) (xif0S teqR rlEq rhEq rlNe rhNe j25 (xald 0 (xgfR 24 6 (xgfR 23 3 (xild 1 (xaaT (xild 2 (xild 3 (xcV 20 3 0 0 (zstr f_X4_hookAt) (xiret P))))))))))))))))))))))))
set_option maxRecDepth 100000 in
set_option maxHeartbeats 4000000 in
theorem s_X8_hooka {d : Nat} [zGh] (P : zP d) : zSim X_X8_hook 2 P 0 (b_X8_hooka P) := by
  unfold b_X8_hooka
  refine sm_aload_n (pc := 0) (n := 0) dX8_hook_0 rfl ?_
  refine sm_iload_n (pc := 1) (n := 1) dX8_hook_1 rfl ?_
  refine sm_cV (pc := 2) (ci := 8) (n := 2) (mc := 0) (ms := 0) rfl (zMet_str m_X8_isPartitiona) (cr_X8_126 (X := X_X8_hook) (fr := 2) (frc := 1) (pc := 2) (mc := 0) (ms := 0) rfl (by decide) dX8_hook_2) ?_
  refine sm_joinJ (pc := 5) (pc' := 25) (j := 1) (fun G0 hG0 => @sbX8_hooka_25 d G0 P) (fun j25 hj25 => ?_)
  refine sm_ifS_eq (pc := 5) (tgt := 25) dX8_hook_5 (by decide) ?_ ?_
  · skip
    exact hj25.use
  · skip
    refine sm_aload_n (pc := 8) (n := 0) dX8_hook_8 rfl ?_
    refine gf_X8_40 (pc := 9) rfl dX8_hook_9 ?_
    refine gf_X8_129 (pc := 12) rfl dX8_hook_12 ?_
    refine sm_iload_n (pc := 15) (n := 1) dX8_hook_15 rfl ?_
    refine sm_aaloadT (pc := 16) dX8_hook_16 ?_
    refine sm_iload_n (pc := 17) (n := 2) dX8_hook_17 rfl ?_
    refine sm_iload_n (pc := 18) (n := 3) dX8_hook_18 rfl ?_
    refine sm_cV (pc := 19) (ci := 4) (n := 3) (mc := 0) (ms := 0) rfl (zMet_str m_X4_hasCella) (cr_X8_186 (X := X_X8_hook) (fr := 2) (frc := 1) (pc := 19) (mc := 0) (ms := 0) rfl (by decide) dX8_hook_19) ?_
    refine sm_ifS_ne (pc := 22) (tgt := 27) dX8_hook_22 (by decide) ?_ ?_
    · skip
      refine sm_aload_n (pc := 27) (n := 0) dX8_hook_27 rfl ?_
      refine gf_X8_40 (pc := 28) rfl dX8_hook_28 ?_
      refine gf_X8_129 (pc := 31) rfl dX8_hook_31 ?_
      refine sm_iload_n (pc := 34) (n := 1) dX8_hook_34 rfl ?_
      refine sm_aaloadT (pc := 35) dX8_hook_35 ?_
      refine sm_iload_n (pc := 36) (n := 2) dX8_hook_36 rfl ?_
      refine sm_iload_n (pc := 37) (n := 3) dX8_hook_37 rfl ?_
      refine sm_cV (pc := 38) (ci := 4) (n := 3) (mc := 0) (ms := 0) rfl (zMet_str m_X4_hookAt) (cr_X8_190 (X := X_X8_hook) (fr := 2) (frc := 1) (pc := 38) (mc := 0) (ms := 0) rfl (by decide) dX8_hook_38) ?_
      exact sm_ireturn (pc := 41) dX8_hook_41 rfl
    · skip
      exact hj25.use
noncomputable def f_X8_hooka {d : Nat} : List zV → zH d → zP d → Bool := zfn 4 b_X8_hooka
theorem m_X8_hooka {d : Nat} : zMet (d := d) X_X8_hook yX8_hook 2 f_X8_hooka := zmet_mk (X := X_X8_hook) (by decide) rfl rfl s_X8_hooka

noncomputable def bX8_classOfa_101 {d : Nat} (P : zP d) : zK d := (xpI 4294967294 (xiret P))
set_option maxRecDepth 100000 in
set_option maxHeartbeats 4000000 in
theorem sbX8_classOfa_101 {d : Nat} [zGh] (P : zP d) : zSim X_X8_classOf 2 P 101 (bX8_classOfa_101 P) := by
  unfold bX8_classOfa_101
  refine sm_bipush (pc := 101) dX8_classOf_101 zc_b_m2 ?_
  exact sm_ireturn (pc := 103) dX8_classOf_103 rfl
noncomputable def bX8_classOfa_48 {d : Nat} (P : zP d) : zK d := (xald 0 (xgfR 24 6 (xgfR 23 5 (xild 1 (xalQ 0 (xiret P))))))
set_option maxRecDepth 100000 in
set_option maxHeartbeats 4000000 in
theorem sbX8_classOfa_48 {d : Nat} [zGh] (P : zP d) : zSim X_X8_classOf 2 P 48 (bX8_classOfa_48 P) := by
  unfold bX8_classOfa_48
  refine sm_aload_n (pc := 48) (n := 0) dX8_classOf_48 rfl ?_
  refine gf_X8_40 (pc := 49) rfl dX8_classOf_49 ?_
  refine gf_X8_193 (pc := 52) rfl dX8_classOf_52 ?_
  refine sm_iload_n (pc := 55) (n := 1) dX8_classOf_55 rfl ?_
  refine sm_ialoadQ (pc := 56) dX8_classOf_56 ?_
  exact sm_ireturn (pc := 57) dX8_classOf_57 rfl
noncomputable def bX8_classOfa_58 {d : Nat} (P : zP d) : zK d := (xald 0 (xgfR 24 6 (xgfR 23 6 (xild 1 (xalQ 0 (xiret P))))))
set_option maxRecDepth 100000 in
set_option maxHeartbeats 4000000 in
theorem sbX8_classOfa_58 {d : Nat} [zGh] (P : zP d) : zSim X_X8_classOf 2 P 58 (bX8_classOfa_58 P) := by
  unfold bX8_classOfa_58
  refine sm_aload_n (pc := 58) (n := 0) dX8_classOf_58 rfl ?_
  refine gf_X8_40 (pc := 59) rfl dX8_classOf_59 ?_
  refine gf_X8_196 (pc := 62) rfl dX8_classOf_62 ?_
  refine sm_iload_n (pc := 65) (n := 1) dX8_classOf_65 rfl ?_
  refine sm_ialoadQ (pc := 66) dX8_classOf_66 ?_
  exact sm_ireturn (pc := 67) dX8_classOf_67 rfl
noncomputable def bX8_classOfa_68 {d : Nat} (P : zP d) : zK d := (xald 0 (xgfR 24 7 (xgfR 21 4 (xild 1 (xalQ 1 (xcS 1 0 0 (zstr f_X8_bit) (xiret P)))))))
set_option maxRecDepth 100000 in
set_option maxHeartbeats 4000000 in
theorem sbX8_classOfa_68 {d : Nat} [zGh] (P : zP d) : zSim X_X8_classOf 2 P 68 (bX8_classOfa_68 P) := by
  unfold bX8_classOfa_68
  refine sm_aload_n (pc := 68) (n := 0) dX8_classOf_68 rfl ?_
  refine gf_X8_47 (pc := 69) rfl dX8_classOf_69 ?_
  refine gf_X8_199 (pc := 72) rfl dX8_classOf_72 ?_
  refine sm_iload_n (pc := 75) (n := 1) dX8_classOf_75 rfl ?_
  refine sm_baloadQ (pc := 76) dX8_classOf_76 ?_
  refine sm_cS (pc := 77) (n := 1) (mc := 0) (ms := 0) (zMet_str m_X8_bit) (cr_X8_148 (X := X_X8_classOf) (fr := 2) (frc := 1) (pc := 77) (mc := 0) (ms := 0) rfl (by decide) dX8_classOf_77) ?_
  exact sm_ireturn (pc := 80) dX8_classOf_80 rfl
noncomputable def bX8_classOfa_81 {d : Nat} (P : zP d) : zK d := (xald 0 (xgfR 24 6 (xgfR 23 7 (xild 1 (xalQ 0 (xiret P))))))
set_option maxRecDepth 100000 in
set_option maxHeartbeats 4000000 in
theorem sbX8_classOfa_81 {d : Nat} [zGh] (P : zP d) : zSim X_X8_classOf 2 P 81 (bX8_classOfa_81 P) := by
  unfold bX8_classOfa_81
  refine sm_aload_n (pc := 81) (n := 0) dX8_classOf_81 rfl ?_
  refine gf_X8_40 (pc := 82) rfl dX8_classOf_82 ?_
  refine gf_X8_203 (pc := 85) rfl dX8_classOf_85 ?_
  refine sm_iload_n (pc := 88) (n := 1) dX8_classOf_88 rfl ?_
  refine sm_ialoadQ (pc := 89) dX8_classOf_89 ?_
  exact sm_ireturn (pc := 90) dX8_classOf_90 rfl
noncomputable def bX8_classOfa_91 {d : Nat} (P : zP d) : zK d := (xald 0 (xgfR 24 6 (xgfR 23 8 (xild 1 (xalQ 0 (xiret P))))))
set_option maxRecDepth 100000 in
set_option maxHeartbeats 4000000 in
theorem sbX8_classOfa_91 {d : Nat} [zGh] (P : zP d) : zSim X_X8_classOf 2 P 91 (bX8_classOfa_91 P) := by
  unfold bX8_classOfa_91
  refine sm_aload_n (pc := 91) (n := 0) dX8_classOf_91 rfl ?_
  refine gf_X8_40 (pc := 92) rfl dX8_classOf_92 ?_
  refine gf_X8_206 (pc := 95) rfl dX8_classOf_95 ?_
  refine sm_iload_n (pc := 98) (n := 1) dX8_classOf_98 rfl ?_
  refine sm_ialoadQ (pc := 99) dX8_classOf_99 ?_
  exact sm_ireturn (pc := 100) dX8_classOf_100 rfl
noncomputable def b_X8_classOfa {d : Nat} (P : zP d) : zK d := (xald 0 (xild 1 (xcV 24 2 0 0 (zstr f_X8_isPartitiona) (xif0S teqR rlEq rhEq rlNe rhNe (xpI 4294967294 (xiret P)) (xild 2 (xtswR 4 [(bX8_classOfa_48 P), (bX8_classOfa_58 P), (bX8_classOfa_68 P), (bX8_classOfa_81 P), (bX8_classOfa_91 P)] (bX8_classOfa_101 P)))))))
set_option maxRecDepth 100000 in
set_option maxHeartbeats 4000000 in
theorem s_X8_classOfa {d : Nat} [zGh] (P : zP d) : zSim X_X8_classOf 2 P 0 (b_X8_classOfa P) := by
  unfold b_X8_classOfa
  refine sm_aload_n (pc := 0) (n := 0) dX8_classOf_0 rfl ?_
  refine sm_iload_n (pc := 1) (n := 1) dX8_classOf_1 rfl ?_
  refine sm_cV (pc := 2) (ci := 8) (n := 2) (mc := 0) (ms := 0) rfl (zMet_str m_X8_isPartitiona) (cr_X8_126 (X := X_X8_classOf) (fr := 2) (frc := 1) (pc := 2) (mc := 0) (ms := 0) rfl (by decide) dX8_classOf_2) ?_
  refine sm_ifS_ne (pc := 5) (tgt := 11) dX8_classOf_5 (by decide) ?_ ?_
  · skip
    refine sm_iload_n (pc := 11) (n := 2) dX8_classOf_11 rfl ?_
    exact sm_tswR (pc := 12) (n := 4) (tdf := 101) [48, 58, 68, 81, 91] rfl (by decide) dX8_classOf_12 rfl (by decide +kernel) (by decide) (sbX8_classOfa_101 P) ⟨sbX8_classOfa_48 P, sbX8_classOfa_58 P, sbX8_classOfa_68 P, sbX8_classOfa_81 P, sbX8_classOfa_91 P, trivial⟩
  · skip
    refine sm_bipush (pc := 8) dX8_classOf_8 zc_b_m2 ?_
    exact sm_ireturn (pc := 10) dX8_classOf_10 rfl
noncomputable def f_X8_classOfa {d : Nat} : List zV → zH d → zP d → Bool := zfn 3 b_X8_classOfa
theorem m_X8_classOfa {d : Nat} : zMet (d := d) X_X8_classOf yX8_classOf 2 f_X8_classOfa := zmet_mk (X := X_X8_classOf) (by decide) rfl rfl s_X8_classOfa

noncomputable def bX8_charactera_33 {d : Nat} (P : zP d) : zK d := (xiret P)
set_option maxRecDepth 100000 in
set_option maxHeartbeats 4000000 in
theorem sbX8_charactera_33 {d : Nat} [zGh] (P : zP d) : zSim X_X8_character 2 P 33 (bX8_charactera_33 P) := by
  unfold bX8_charactera_33
  exact sm_ireturn (pc := 33) dX8_character_33 rfl
noncomputable def bX8_charactera_30 {d : Nat} (P : zP d) (j33 : zK d) : zK d := (xpI 4294966295 j33)
set_option maxRecDepth 100000 in
set_option maxHeartbeats 4000000 in
theorem sbX8_charactera_30 {d : Nat} [zGh] (P : zP d) (j33 : zK d) (hj33 : zSimJ 1 X_X8_character 2 P 33 j33) : zSim X_X8_character 2 P 30 (bX8_charactera_30 P j33) := by
  unfold bX8_charactera_30
  refine sm_sipush (pc := 30) dX8_character_30 zc_s_m1001 ?_
  exact hj33.use
noncomputable def b_X8_charactera {d : Nat} (P : zP d) : zK d := (xald 0 (xild 1 (xcV 24 2 0 0 (zstr f_X8_isPartitiona) (xjoin (bX8_charactera_33 P) (fun j33 => (xjoin (bX8_charactera_30 P j33) (fun j30 => (xif0S teqR rlEq rhEq rlNe rhNe j30 (xald 0 (xild 2 (xcV 24 2 0 0 (zstr f_X8_isPartitiona) (xif0S teqR rlEq rhEq rlNe rhNe j30 (xald 0 (xgfR 24 6 (xgfR 23 12 (xild 1 (xaaT (xild 2 (xalQ 0 j33)))))))))))))))))))
set_option maxRecDepth 100000 in
set_option maxHeartbeats 4000000 in
theorem s_X8_charactera {d : Nat} [zGh] (P : zP d) : zSim X_X8_character 2 P 0 (b_X8_charactera P) := by
  unfold b_X8_charactera
  refine sm_aload_n (pc := 0) (n := 0) dX8_character_0 rfl ?_
  refine sm_iload_n (pc := 1) (n := 1) dX8_character_1 rfl ?_
  refine sm_cV (pc := 2) (ci := 8) (n := 2) (mc := 0) (ms := 0) rfl (zMet_str m_X8_isPartitiona) (cr_X8_126 (X := X_X8_character) (fr := 2) (frc := 1) (pc := 2) (mc := 0) (ms := 0) rfl (by decide) dX8_character_2) ?_
  refine sm_joinJ (pc := 5) (pc' := 33) (j := 1) (fun G0 hG0 => @sbX8_charactera_33 d G0 P) (fun j33 hj33 => ?_)
  refine sm_joinJ (pc := 5) (pc' := 30) (j := 1) (fun G0 hG0 => @sbX8_charactera_30 d G0 P j33 (hj33.mv hG0 (by decide))) (fun j30 hj30 => ?_)
  refine sm_ifS_eq (pc := 5) (tgt := 30) dX8_character_5 (by decide) ?_ ?_
  · skip
    exact hj30.use
  · skip
    refine sm_aload_n (pc := 8) (n := 0) dX8_character_8 rfl ?_
    refine sm_iload_n (pc := 9) (n := 2) dX8_character_9 rfl ?_
    refine sm_cV (pc := 10) (ci := 8) (n := 2) (mc := 0) (ms := 0) rfl (zMet_str m_X8_isPartitiona) (cr_X8_126 (X := X_X8_character) (fr := 2) (frc := 1) (pc := 10) (mc := 0) (ms := 0) rfl (by decide) dX8_character_10) ?_
    refine sm_ifS_eq (pc := 13) (tgt := 30) dX8_character_13 (by decide) ?_ ?_
    · skip
      exact hj30.use
    · skip
      refine sm_aload_n (pc := 16) (n := 0) dX8_character_16 rfl ?_
      refine gf_X8_40 (pc := 17) rfl dX8_character_17 ?_
      refine gf_X8_209 (pc := 20) rfl dX8_character_20 ?_
      refine sm_iload_n (pc := 23) (n := 1) dX8_character_23 rfl ?_
      refine sm_aaloadT (pc := 24) dX8_character_24 ?_
      refine sm_iload_n (pc := 25) (n := 2) dX8_character_25 rfl ?_
      refine sm_ialoadQ (pc := 26) dX8_character_26 ?_
      refine sm_goto (pc := 27) (tgt := 33) dX8_character_27 (by decide) ?_
      exact hj33.use
noncomputable def f_X8_charactera {d : Nat} : List zV → zH d → zP d → Bool := zfn 3 b_X8_charactera
theorem m_X8_charactera {d : Nat} : zMet (d := d) X_X8_character yX8_character 2 f_X8_charactera := zmet_mk (X := X_X8_character) (by decide) rfl rfl s_X8_charactera

noncomputable def bX8_modulara_28 {d : Nat} (P : zP d) : zK d := (xpI 4294966295 (xiret P))
set_option maxRecDepth 100000 in
set_option maxHeartbeats 4000000 in
theorem sbX8_modulara_28 {d : Nat} [zGh] (P : zP d) : zSim X_X8_modular 3 P 28 (bX8_modulara_28 P) := by
  unfold bX8_modulara_28
  refine sm_sipush (pc := 28) dX8_modular_28 zc_s_m1001 ?_
  exact sm_ireturn (pc := 31) dX8_modular_31 rfl
noncomputable def b_X8_modulara {d : Nat} (P : zP d) : zK d := (xald 0 (xild 1 (xcV 24 2 0 0 (zstr f_X8_isRegularPartitiona) (xjoin (bX8_modulara_28 P) (fun j28 => (xif0S teqR rlEq rhEq rlNe rhNe j28 (xald 0 (xild 2 (xcV 24 2 0 0 (zstr f_X8_isPartitiona) (xif0S teqR rlEq rhEq rlNe rhNe j28 (xald 0 (xgfR 24 7 (xgfR 21 4 (xild 2 (xalQ 1 (xif0S teqR rlEq rhEq rlNe rhNe j28 (xald 0 (xgfR 24 7 (xgfR 21 6 (xild 1 (xaaT (xild 2 (xalQ 0 (xiret P))))))))))))))))))))))))
set_option maxRecDepth 100000 in
set_option maxHeartbeats 4000000 in
theorem s_X8_modulara {d : Nat} [zGh] (P : zP d) : zSim X_X8_modular 3 P 0 (b_X8_modulara P) := by
  unfold b_X8_modulara
  refine sm_aload_n (pc := 0) (n := 0) dX8_modular_0 rfl ?_
  refine sm_iload_n (pc := 1) (n := 1) dX8_modular_1 rfl ?_
  refine sm_cV (pc := 2) (ci := 8) (n := 2) (mc := 0) (ms := 0) rfl (zMet_str m_X8_isRegularPartitiona) (cr_X8_212 (X := X_X8_modular) (fr := 3) (frc := 2) (pc := 2) (mc := 0) (ms := 0) rfl (by decide) dX8_modular_2) ?_
  refine sm_joinJ (pc := 5) (pc' := 28) (j := 1) (fun G0 hG0 => @sbX8_modulara_28 d G0 P) (fun j28 hj28 => ?_)
  refine sm_ifS_eq (pc := 5) (tgt := 28) dX8_modular_5 (by decide) ?_ ?_
  · skip
    exact hj28.use
  · skip
    refine sm_aload_n (pc := 8) (n := 0) dX8_modular_8 rfl ?_
    refine sm_iload_n (pc := 9) (n := 2) dX8_modular_9 rfl ?_
    refine sm_cV (pc := 10) (ci := 8) (n := 2) (mc := 0) (ms := 0) rfl (zMet_str m_X8_isPartitiona) (cr_X8_126 (X := X_X8_modular) (fr := 3) (frc := 1) (pc := 10) (mc := 0) (ms := 0) rfl (by decide) dX8_modular_10) ?_
    refine sm_ifS_eq (pc := 13) (tgt := 28) dX8_modular_13 (by decide) ?_ ?_
    · skip
      exact hj28.use
    · skip
      refine sm_aload_n (pc := 16) (n := 0) dX8_modular_16 rfl ?_
      refine gf_X8_47 (pc := 17) rfl dX8_modular_17 ?_
      refine gf_X8_199 (pc := 20) rfl dX8_modular_20 ?_
      refine sm_iload_n (pc := 23) (n := 2) dX8_modular_23 rfl ?_
      refine sm_baloadQ (pc := 24) dX8_modular_24 ?_
      refine sm_ifS_ne (pc := 25) (tgt := 32) dX8_modular_25 (by decide) ?_ ?_
      · skip
        refine sm_aload_n (pc := 32) (n := 0) dX8_modular_32 rfl ?_
        refine gf_X8_47 (pc := 33) rfl dX8_modular_33 ?_
        refine gf_X8_215 (pc := 36) rfl dX8_modular_36 ?_
        refine sm_iload_n (pc := 39) (n := 1) dX8_modular_39 rfl ?_
        refine sm_aaloadT (pc := 40) dX8_modular_40 ?_
        refine sm_iload_n (pc := 41) (n := 2) dX8_modular_41 rfl ?_
        refine sm_ialoadQ (pc := 42) dX8_modular_42 ?_
        exact sm_ireturn (pc := 43) dX8_modular_43 rfl
      · skip
        exact hj28.use
noncomputable def f_X8_modulara {d : Nat} : List zV → zH d → zP d → Bool := zfn 3 b_X8_modulara
theorem m_X8_modulara {d : Nat} : zMet (d := d) X_X8_modular yX8_modular 3 f_X8_modulara := zmet_mk (X := X_X8_modular) (by decide) rfl rfl s_X8_modulara

noncomputable def bX8_projectivea_33 {d : Nat} (P : zP d) : zK d := (xiret P)
set_option maxRecDepth 100000 in
set_option maxHeartbeats 4000000 in
theorem sbX8_projectivea_33 {d : Nat} [zGh] (P : zP d) : zSim X_X8_projective 3 P 33 (bX8_projectivea_33 P) := by
  unfold bX8_projectivea_33
  exact sm_ireturn (pc := 33) dX8_projective_33 rfl
noncomputable def bX8_projectivea_30 {d : Nat} (P : zP d) (j33 : zK d) : zK d := (xpI 4294966295 j33)
set_option maxRecDepth 100000 in
set_option maxHeartbeats 4000000 in
theorem sbX8_projectivea_30 {d : Nat} [zGh] (P : zP d) (j33 : zK d) (hj33 : zSimJ 1 X_X8_projective 3 P 33 j33) : zSim X_X8_projective 3 P 30 (bX8_projectivea_30 P j33) := by
  unfold bX8_projectivea_30
  refine sm_sipush (pc := 30) dX8_projective_30 zc_s_m1001 ?_
  exact hj33.use
noncomputable def b_X8_projectivea {d : Nat} (P : zP d) : zK d := (xald 0 (xild 1 (xcV 24 2 0 0 (zstr f_X8_isRegularPartitiona) (xjoin (bX8_projectivea_33 P) (fun j33 => (xjoin (bX8_projectivea_30 P j33) (fun j30 => (xif0S teqR rlEq rhEq rlNe rhNe j30 (xald 0 (xild 2 (xcV 24 2 0 0 (zstr f_X8_isPartitiona) (xif0S teqR rlEq rhEq rlNe rhNe j30 (xald 0 (xgfR 24 7 (xgfR 21 9 (xild 1 (xaaT (xild 2 (xalQ 0 j33)))))))))))))))))))
set_option maxRecDepth 100000 in
set_option maxHeartbeats 4000000 in
theorem s_X8_projectivea {d : Nat} [zGh] (P : zP d) : zSim X_X8_projective 3 P 0 (b_X8_projectivea P) := by
  unfold b_X8_projectivea
  refine sm_aload_n (pc := 0) (n := 0) dX8_projective_0 rfl ?_
  refine sm_iload_n (pc := 1) (n := 1) dX8_projective_1 rfl ?_
  refine sm_cV (pc := 2) (ci := 8) (n := 2) (mc := 0) (ms := 0) rfl (zMet_str m_X8_isRegularPartitiona) (cr_X8_212 (X := X_X8_projective) (fr := 3) (frc := 2) (pc := 2) (mc := 0) (ms := 0) rfl (by decide) dX8_projective_2) ?_
  refine sm_joinJ (pc := 5) (pc' := 33) (j := 1) (fun G0 hG0 => @sbX8_projectivea_33 d G0 P) (fun j33 hj33 => ?_)
  refine sm_joinJ (pc := 5) (pc' := 30) (j := 1) (fun G0 hG0 => @sbX8_projectivea_30 d G0 P j33 (hj33.mv hG0 (by decide))) (fun j30 hj30 => ?_)
  refine sm_ifS_eq (pc := 5) (tgt := 30) dX8_projective_5 (by decide) ?_ ?_
  · skip
    exact hj30.use
  · skip
    refine sm_aload_n (pc := 8) (n := 0) dX8_projective_8 rfl ?_
    refine sm_iload_n (pc := 9) (n := 2) dX8_projective_9 rfl ?_
    refine sm_cV (pc := 10) (ci := 8) (n := 2) (mc := 0) (ms := 0) rfl (zMet_str m_X8_isPartitiona) (cr_X8_126 (X := X_X8_projective) (fr := 3) (frc := 1) (pc := 10) (mc := 0) (ms := 0) rfl (by decide) dX8_projective_10) ?_
    refine sm_ifS_eq (pc := 13) (tgt := 30) dX8_projective_13 (by decide) ?_ ?_
    · skip
      exact hj30.use
    · skip
      refine sm_aload_n (pc := 16) (n := 0) dX8_projective_16 rfl ?_
      refine gf_X8_47 (pc := 17) rfl dX8_projective_17 ?_
      refine gf_X8_218 (pc := 20) rfl dX8_projective_20 ?_
      refine sm_iload_n (pc := 23) (n := 1) dX8_projective_23 rfl ?_
      refine sm_aaloadT (pc := 24) dX8_projective_24 ?_
      refine sm_iload_n (pc := 25) (n := 2) dX8_projective_25 rfl ?_
      refine sm_ialoadQ (pc := 26) dX8_projective_26 ?_
      refine sm_goto (pc := 27) (tgt := 33) dX8_projective_27 (by decide) ?_
      exact hj33.use
noncomputable def f_X8_projectivea {d : Nat} : List zV → zH d → zP d → Bool := zfn 3 b_X8_projectivea
theorem m_X8_projectivea {d : Nat} : zMet (d := d) X_X8_projective yX8_projective 3 f_X8_projectivea := zmet_mk (X := X_X8_projective) (by decide) rfl rfl s_X8_projectivea

noncomputable def bX8_decompositiona_31 {d : Nat} (P : zP d) : zK d := (xiret P)
set_option maxRecDepth 100000 in
set_option maxHeartbeats 4000000 in
theorem sbX8_decompositiona_31 {d : Nat} [zGh] (P : zP d) : zSim X_X8_decomposition 3 P 31 (bX8_decompositiona_31 P) := by
  unfold bX8_decompositiona_31
  exact sm_ireturn (pc := 31) dX8_decomposition_31 rfl
noncomputable def bX8_decompositiona_30 {d : Nat} (P : zP d) (j31 : zK d) : zK d := (xpI 4294967295 j31)
set_option maxRecDepth 100000 in
set_option maxHeartbeats 4000000 in
theorem sbX8_decompositiona_30 {d : Nat} [zGh] (P : zP d) (j31 : zK d) (hj31 : zSimJ 1 X_X8_decomposition 3 P 31 j31) : zSim X_X8_decomposition 3 P 30 (bX8_decompositiona_30 P j31) := by
  unfold bX8_decompositiona_30
  refine sm_iconst (pc := 30) dX8_decomposition_30 zc_i_m1 ?_
  exact hj31.use
noncomputable def b_X8_decompositiona {d : Nat} (P : zP d) : zK d := (xald 0 (xild 1 (xcV 24 2 0 0 (zstr f_X8_isPartitiona) (xjoin (bX8_decompositiona_31 P) (fun j31 => (xjoin (bX8_decompositiona_30 P j31) (fun j30 => (xif0S teqR rlEq rhEq rlNe rhNe j30 (xald 0 (xild 2 (xcV 24 2 0 0 (zstr f_X8_isRegularPartitiona) (xif0S teqR rlEq rhEq rlNe rhNe j30 (xald 0 (xgfR 24 7 (xgfR 21 7 (xild 1 (xaaT (xild 2 (xalQ 0 j31)))))))))))))))))))
set_option maxRecDepth 100000 in
set_option maxHeartbeats 4000000 in
theorem s_X8_decompositiona {d : Nat} [zGh] (P : zP d) : zSim X_X8_decomposition 3 P 0 (b_X8_decompositiona P) := by
  unfold b_X8_decompositiona
  refine sm_aload_n (pc := 0) (n := 0) dX8_decomposition_0 rfl ?_
  refine sm_iload_n (pc := 1) (n := 1) dX8_decomposition_1 rfl ?_
  refine sm_cV (pc := 2) (ci := 8) (n := 2) (mc := 0) (ms := 0) rfl (zMet_str m_X8_isPartitiona) (cr_X8_126 (X := X_X8_decomposition) (fr := 3) (frc := 1) (pc := 2) (mc := 0) (ms := 0) rfl (by decide) dX8_decomposition_2) ?_
  refine sm_joinJ (pc := 5) (pc' := 31) (j := 1) (fun G0 hG0 => @sbX8_decompositiona_31 d G0 P) (fun j31 hj31 => ?_)
  refine sm_joinJ (pc := 5) (pc' := 30) (j := 1) (fun G0 hG0 => @sbX8_decompositiona_30 d G0 P j31 (hj31.mv hG0 (by decide))) (fun j30 hj30 => ?_)
  refine sm_ifS_eq (pc := 5) (tgt := 30) dX8_decomposition_5 (by decide) ?_ ?_
  · skip
    exact hj30.use
  · skip
    refine sm_aload_n (pc := 8) (n := 0) dX8_decomposition_8 rfl ?_
    refine sm_iload_n (pc := 9) (n := 2) dX8_decomposition_9 rfl ?_
    refine sm_cV (pc := 10) (ci := 8) (n := 2) (mc := 0) (ms := 0) rfl (zMet_str m_X8_isRegularPartitiona) (cr_X8_212 (X := X_X8_decomposition) (fr := 3) (frc := 2) (pc := 10) (mc := 0) (ms := 0) rfl (by decide) dX8_decomposition_10) ?_
    refine sm_ifS_eq (pc := 13) (tgt := 30) dX8_decomposition_13 (by decide) ?_ ?_
    · skip
      exact hj30.use
    · skip
      refine sm_aload_n (pc := 16) (n := 0) dX8_decomposition_16 rfl ?_
      refine gf_X8_47 (pc := 17) rfl dX8_decomposition_17 ?_
      refine gf_X8_221 (pc := 20) rfl dX8_decomposition_20 ?_
      refine sm_iload_n (pc := 23) (n := 1) dX8_decomposition_23 rfl ?_
      refine sm_aaloadT (pc := 24) dX8_decomposition_24 ?_
      refine sm_iload_n (pc := 25) (n := 2) dX8_decomposition_25 rfl ?_
      refine sm_ialoadQ (pc := 26) dX8_decomposition_26 ?_
      refine sm_goto (pc := 27) (tgt := 31) dX8_decomposition_27 (by decide) ?_
      exact hj31.use
noncomputable def f_X8_decompositiona {d : Nat} : List zV → zH d → zP d → Bool := zfn 3 b_X8_decompositiona
theorem m_X8_decompositiona {d : Nat} : zMet (d := d) X_X8_decomposition yX8_decomposition 3 f_X8_decompositiona := zmet_mk (X := X_X8_decomposition) (by decide) rfl rfl s_X8_decompositiona

noncomputable def bX8_cartana_31 {d : Nat} (P : zP d) : zK d := (xiret P)
set_option maxRecDepth 100000 in
set_option maxHeartbeats 4000000 in
theorem sbX8_cartana_31 {d : Nat} [zGh] (P : zP d) : zSim X_X8_cartan 3 P 31 (bX8_cartana_31 P) := by
  unfold bX8_cartana_31
  exact sm_ireturn (pc := 31) dX8_cartan_31 rfl
noncomputable def bX8_cartana_30 {d : Nat} (P : zP d) (j31 : zK d) : zK d := (xpI 4294967295 j31)
set_option maxRecDepth 100000 in
set_option maxHeartbeats 4000000 in
theorem sbX8_cartana_30 {d : Nat} [zGh] (P : zP d) (j31 : zK d) (hj31 : zSimJ 1 X_X8_cartan 3 P 31 j31) : zSim X_X8_cartan 3 P 30 (bX8_cartana_30 P j31) := by
  unfold bX8_cartana_30
  refine sm_iconst (pc := 30) dX8_cartan_30 zc_i_m1 ?_
  exact hj31.use
noncomputable def b_X8_cartana {d : Nat} (P : zP d) : zK d := (xald 0 (xild 1 (xcV 24 2 0 0 (zstr f_X8_isRegularPartitiona) (xjoin (bX8_cartana_31 P) (fun j31 => (xjoin (bX8_cartana_30 P j31) (fun j30 => (xif0S teqR rlEq rhEq rlNe rhNe j30 (xald 0 (xild 2 (xcV 24 2 0 0 (zstr f_X8_isRegularPartitiona) (xif0S teqR rlEq rhEq rlNe rhNe j30 (xald 0 (xgfR 24 7 (xgfR 21 8 (xild 1 (xaaT (xild 2 (xalQ 0 j31)))))))))))))))))))
set_option maxRecDepth 100000 in
set_option maxHeartbeats 4000000 in
theorem s_X8_cartana {d : Nat} [zGh] (P : zP d) : zSim X_X8_cartan 3 P 0 (b_X8_cartana P) := by
  unfold b_X8_cartana
  refine sm_aload_n (pc := 0) (n := 0) dX8_cartan_0 rfl ?_
  refine sm_iload_n (pc := 1) (n := 1) dX8_cartan_1 rfl ?_
  refine sm_cV (pc := 2) (ci := 8) (n := 2) (mc := 0) (ms := 0) rfl (zMet_str m_X8_isRegularPartitiona) (cr_X8_212 (X := X_X8_cartan) (fr := 3) (frc := 2) (pc := 2) (mc := 0) (ms := 0) rfl (by decide) dX8_cartan_2) ?_
  refine sm_joinJ (pc := 5) (pc' := 31) (j := 1) (fun G0 hG0 => @sbX8_cartana_31 d G0 P) (fun j31 hj31 => ?_)
  refine sm_joinJ (pc := 5) (pc' := 30) (j := 1) (fun G0 hG0 => @sbX8_cartana_30 d G0 P j31 (hj31.mv hG0 (by decide))) (fun j30 hj30 => ?_)
  refine sm_ifS_eq (pc := 5) (tgt := 30) dX8_cartan_5 (by decide) ?_ ?_
  · skip
    exact hj30.use
  · skip
    refine sm_aload_n (pc := 8) (n := 0) dX8_cartan_8 rfl ?_
    refine sm_iload_n (pc := 9) (n := 2) dX8_cartan_9 rfl ?_
    refine sm_cV (pc := 10) (ci := 8) (n := 2) (mc := 0) (ms := 0) rfl (zMet_str m_X8_isRegularPartitiona) (cr_X8_212 (X := X_X8_cartan) (fr := 3) (frc := 2) (pc := 10) (mc := 0) (ms := 0) rfl (by decide) dX8_cartan_10) ?_
    refine sm_ifS_eq (pc := 13) (tgt := 30) dX8_cartan_13 (by decide) ?_ ?_
    · skip
      exact hj30.use
    · skip
      refine sm_aload_n (pc := 16) (n := 0) dX8_cartan_16 rfl ?_
      refine gf_X8_47 (pc := 17) rfl dX8_cartan_17 ?_
      refine gf_X8_224 (pc := 20) rfl dX8_cartan_20 ?_
      refine sm_iload_n (pc := 23) (n := 1) dX8_cartan_23 rfl ?_
      refine sm_aaloadT (pc := 24) dX8_cartan_24 ?_
      refine sm_iload_n (pc := 25) (n := 2) dX8_cartan_25 rfl ?_
      refine sm_ialoadQ (pc := 26) dX8_cartan_26 ?_
      refine sm_goto (pc := 27) (tgt := 31) dX8_cartan_27 (by decide) ?_
      exact hj31.use
noncomputable def f_X8_cartana {d : Nat} : List zV → zH d → zP d → Bool := zfn 3 b_X8_cartana
theorem m_X8_cartana {d : Nat} : zMet (d := d) X_X8_cartan yX8_cartan 3 f_X8_cartana := zmet_mk (X := X_X8_cartan) (by decide) rfl rfl s_X8_cartana

noncomputable def bX8_tableaua_56 {d : Nat} (P : zP d) : zK d := (xpI 4294967295 (xiret P))
set_option maxRecDepth 100000 in
set_option maxHeartbeats 4000000 in
theorem sbX8_tableaua_56 {d : Nat} [zGh] (P : zP d) : zSim X_X8_tableau 2 P 56 (bX8_tableaua_56 P) := by
  unfold bX8_tableaua_56
  refine sm_iconst (pc := 56) dX8_tableau_56 zc_i_m1 ?_
  exact sm_ireturn (pc := 57) dX8_tableau_57 rfl
noncomputable def cX8_tableaua_58 {d : Nat} (P : zP d) : zK d := (xald 5 (xgfR 20 6 (xild 2 (xaaT (xald 5 (xgfR 20 4 (xild 3 (xalQ 0 (xild 4 (xbin zaddR (xalQ 0 (xiret P))))))))))))
set_option maxRecDepth 100000 in
set_option maxHeartbeats 4000000 in
theorem scX8_tableaua_58 {d : Nat} [zGh] (P : zP d) : zSim X_X8_tableau 2 P 58 (cX8_tableaua_58 P) := by
  unfold cX8_tableaua_58
  refine sm_aload (pc := 58) (n := 5) dX8_tableau_58 ?_
  refine gf_X8_227 (pc := 60) rfl dX8_tableau_60 ?_
  refine sm_iload_n (pc := 63) (n := 2) dX8_tableau_63 rfl ?_
  refine sm_aaloadT (pc := 64) dX8_tableau_64 ?_
  refine sm_aload (pc := 65) (n := 5) dX8_tableau_65 ?_
  refine gf_X8_230 (pc := 67) rfl dX8_tableau_67 ?_
  refine sm_iload_n (pc := 70) (n := 3) dX8_tableau_70 rfl ?_
  refine sm_ialoadQ (pc := 71) dX8_tableau_71 ?_
  refine sm_iload (pc := 72) (n := 4) dX8_tableau_72 ?_
  refine sm_iaddR (pc := 74) dX8_tableau_74 ?_
  refine sm_ialoadQ (pc := 75) dX8_tableau_75 ?_
  exact sm_ireturn (pc := 76) dX8_tableau_76 rfl
noncomputable def b_X8_tableaua {d : Nat} (P : zP d) : zK d := (xald 0 (xild 1 (xcV 24 2 0 0 (zstr f_X8_isPartitiona) (xif0S teqR rlEq rhEq rlNe rhNe (xpI 4294967295 (xiret P)) (xald 0 (xgfR 24 6 (xgfR 23 3 (xild 1 (xaaT (xast 5 (xild 3 (xpI 4294967295 (xcmpS teqR rlEq rhEq rlNe rhNe (xald 5 (xgfI 20 5 (xiret P))) (xild 2 (xjoin (bX8_tableaua_56 P) (fun j56 => (xif0S tgeR rlGe rhS rlS rhLt (xild 2 (xald 5 (xgfI 20 5 (xcmpS tgeR rlGe rhS rlS rhLt j56 (xald 5 (xild 3 (xild 4 (xcV 20 3 0 0 (zstr f_X4_hasCella) (xif0S teqR rlEq rhEq rlNe rhNe j56 (cX8_tableaua_58 P)))))))))) j56)))))))))))))))))
set_option maxRecDepth 100000 in
set_option maxHeartbeats 4000000 in
theorem s_X8_tableaua {d : Nat} [zGh] (P : zP d) : zSim X_X8_tableau 2 P 0 (b_X8_tableaua P) := by
  unfold b_X8_tableaua
  refine sm_aload_n (pc := 0) (n := 0) dX8_tableau_0 rfl ?_
  refine sm_iload_n (pc := 1) (n := 1) dX8_tableau_1 rfl ?_
  refine sm_cV (pc := 2) (ci := 8) (n := 2) (mc := 0) (ms := 0) rfl (zMet_str m_X8_isPartitiona) (cr_X8_126 (X := X_X8_tableau) (fr := 2) (frc := 1) (pc := 2) (mc := 0) (ms := 0) rfl (by decide) dX8_tableau_2) ?_
  refine sm_ifS_ne (pc := 5) (tgt := 10) dX8_tableau_5 (by decide) ?_ ?_
  · skip
    refine sm_aload_n (pc := 10) (n := 0) dX8_tableau_10 rfl ?_
    refine gf_X8_40 (pc := 11) rfl dX8_tableau_11 ?_
    refine gf_X8_129 (pc := 14) rfl dX8_tableau_14 ?_
    refine sm_iload_n (pc := 17) (n := 1) dX8_tableau_17 rfl ?_
    refine sm_aaloadT (pc := 18) dX8_tableau_18 ?_
    refine sm_astore (pc := 19) (n := 5) dX8_tableau_19 ?_
    refine sm_iload_n (pc := 21) (n := 3) dX8_tableau_21 rfl ?_
    refine sm_iconst (pc := 22) dX8_tableau_22 zc_i_m1 ?_
    refine sm_icmpS_ne (pc := 23) (tgt := 32) dX8_tableau_23 (by decide) ?_ ?_
    · skip
      refine sm_iload_n (pc := 32) (n := 2) dX8_tableau_32 rfl ?_
      refine sm_joinJ (pc := 33) (pc' := 56) (j := 1) (fun G0 hG0 => @sbX8_tableaua_56 d G0 P) (fun j56 hj56 => ?_)
      refine sm_ifS_lt (pc := 33) (tgt := 56) dX8_tableau_33 (by decide) ?_ ?_
      · skip
        exact hj56.use
      · skip
        refine sm_iload_n (pc := 36) (n := 2) dX8_tableau_36 rfl ?_
        refine sm_aload (pc := 37) (n := 5) dX8_tableau_37 ?_
        refine gf_X8_164 (pc := 39) rfl dX8_tableau_39 ?_
        refine sm_icmpS_ge (pc := 42) (tgt := 56) dX8_tableau_42 (by decide) ?_ ?_
        · skip
          exact hj56.use
        · skip
          refine sm_aload (pc := 45) (n := 5) dX8_tableau_45 ?_
          refine sm_iload_n (pc := 47) (n := 3) dX8_tableau_47 rfl ?_
          refine sm_iload (pc := 48) (n := 4) dX8_tableau_48 ?_
          refine sm_cV (pc := 50) (ci := 4) (n := 3) (mc := 0) (ms := 0) rfl (zMet_str m_X4_hasCella) (cr_X8_186 (X := X_X8_tableau) (fr := 2) (frc := 1) (pc := 50) (mc := 0) (ms := 0) rfl (by decide) dX8_tableau_50) ?_
          refine sm_ifS_ne (pc := 53) (tgt := 58) dX8_tableau_53 (by decide) ?_ ?_
          · skip
            exact scX8_tableaua_58 P
          · skip
            exact hj56.use
    · skip
      refine sm_aload (pc := 26) (n := 5) dX8_tableau_26 ?_
      refine gf_X8_164 (pc := 28) rfl dX8_tableau_28 ?_
      exact sm_ireturn (pc := 31) dX8_tableau_31 rfl
  · skip
    refine sm_iconst (pc := 8) dX8_tableau_8 zc_i_m1 ?_
    exact sm_ireturn (pc := 9) dX8_tableau_9 rfl
noncomputable def f_X8_tableaua {d : Nat} : List zV → zH d → zP d → Bool := zfn 6 b_X8_tableaua
theorem m_X8_tableaua {d : Nat} : zMet (d := d) X_X8_tableau yX8_tableau 2 f_X8_tableaua := zmet_mk (X := X_X8_tableau) (by decide) rfl rfl s_X8_tableaua

noncomputable def bX8_grama_49 {d : Nat} (P : zP d) : zK d := (xpI 4294966295 (xiret P))
set_option maxRecDepth 100000 in
set_option maxHeartbeats 4000000 in
theorem sbX8_grama_49 {d : Nat} [zGh] (P : zP d) : zSim X_X8_gram 2 P 49 (bX8_grama_49 P) := by
  unfold bX8_grama_49
  refine sm_sipush (pc := 49) dX8_gram_49 zc_s_m1001 ?_
  exact sm_ireturn (pc := 52) dX8_gram_52 rfl
noncomputable def cX8_grama_58 {d : Nat} (P : zP d) : zK d := (xild 2 (xaaT (xild 3 (xalQ 0 (xiret P)))))
set_option maxRecDepth 100000 in
set_option maxHeartbeats 4000000 in
theorem scX8_grama_58 {d : Nat} [zGh] (P : zP d) : zSim X_X8_gram 2 P 58 (cX8_grama_58 P) := by
  unfold cX8_grama_58
  refine sm_iload_n (pc := 58) (n := 2) dX8_gram_58 rfl ?_
  refine sm_aaloadT (pc := 59) dX8_gram_59 ?_
  refine sm_iload_n (pc := 60) (n := 3) dX8_gram_60 rfl ?_
  refine sm_ialoadQ (pc := 61) dX8_gram_61 ?_
  exact sm_ireturn (pc := 62) dX8_gram_62 rfl
noncomputable def b_X8_grama {d : Nat} (P : zP d) : zK d := (xald 0 (xild 1 (xcV 24 2 0 0 (zstr f_X8_isPartitiona) (xif0S teqR rlEq rhEq rlNe rhNe (xpI 4294966295 (xiret P)) (xald 0 (xgfR 24 6 (xgfR 23 3 (xild 1 (xaaT (xast 4 (xild 2 (xjoin (bX8_grama_49 P) (fun j49 => (xif0S tgeR rlGe rhS rlS rhLt (xild 2 (xald 4 (xgfI 20 5 (xcmpS tgeR rlGe rhS rlS rhLt j49 (xild 3 (xif0S tgeR rlGe rhS rlS rhLt (xild 3 (xald 4 (xgfI 20 5 (xcmpS tgeR rlGe rhS rlS rhLt j49 (xald 4 (xgfR 20 7 (cX8_grama_58 P))))))) j49)))))) j49))))))))))))))
set_option maxRecDepth 100000 in
set_option maxHeartbeats 4000000 in
theorem s_X8_grama {d : Nat} [zGh] (P : zP d) : zSim X_X8_gram 2 P 0 (b_X8_grama P) := by
  unfold b_X8_grama
  refine sm_aload_n (pc := 0) (n := 0) dX8_gram_0 rfl ?_
  refine sm_iload_n (pc := 1) (n := 1) dX8_gram_1 rfl ?_
  refine sm_cV (pc := 2) (ci := 8) (n := 2) (mc := 0) (ms := 0) rfl (zMet_str m_X8_isPartitiona) (cr_X8_126 (X := X_X8_gram) (fr := 2) (frc := 1) (pc := 2) (mc := 0) (ms := 0) rfl (by decide) dX8_gram_2) ?_
  refine sm_ifS_ne (pc := 5) (tgt := 12) dX8_gram_5 (by decide) ?_ ?_
  · skip
    refine sm_aload_n (pc := 12) (n := 0) dX8_gram_12 rfl ?_
    refine gf_X8_40 (pc := 13) rfl dX8_gram_13 ?_
    refine gf_X8_129 (pc := 16) rfl dX8_gram_16 ?_
    refine sm_iload_n (pc := 19) (n := 1) dX8_gram_19 rfl ?_
    refine sm_aaloadT (pc := 20) dX8_gram_20 ?_
    refine sm_astore (pc := 21) (n := 4) dX8_gram_21 ?_
    refine sm_iload_n (pc := 23) (n := 2) dX8_gram_23 rfl ?_
    refine sm_joinJ (pc := 24) (pc' := 49) (j := 1) (fun G0 hG0 => @sbX8_grama_49 d G0 P) (fun j49 hj49 => ?_)
    refine sm_ifS_lt (pc := 24) (tgt := 49) dX8_gram_24 (by decide) ?_ ?_
    · skip
      exact hj49.use
    · skip
      refine sm_iload_n (pc := 27) (n := 2) dX8_gram_27 rfl ?_
      refine sm_aload (pc := 28) (n := 4) dX8_gram_28 ?_
      refine gf_X8_164 (pc := 30) rfl dX8_gram_30 ?_
      refine sm_icmpS_ge (pc := 33) (tgt := 49) dX8_gram_33 (by decide) ?_ ?_
      · skip
        exact hj49.use
      · skip
        refine sm_iload_n (pc := 36) (n := 3) dX8_gram_36 rfl ?_
        refine sm_ifS_lt (pc := 37) (tgt := 49) dX8_gram_37 (by decide) ?_ ?_
        · skip
          exact hj49.use
        · skip
          refine sm_iload_n (pc := 40) (n := 3) dX8_gram_40 rfl ?_
          refine sm_aload (pc := 41) (n := 4) dX8_gram_41 ?_
          refine gf_X8_164 (pc := 43) rfl dX8_gram_43 ?_
          refine sm_icmpS_lt (pc := 46) (tgt := 53) dX8_gram_46 (by decide) ?_ ?_
          · skip
            refine sm_aload (pc := 53) (n := 4) dX8_gram_53 ?_
            refine gf_X8_233 (pc := 55) rfl dX8_gram_55 ?_
            exact scX8_grama_58 P
          · skip
            exact hj49.use
  · skip
    refine sm_sipush (pc := 8) dX8_gram_8 zc_s_m1001 ?_
    exact sm_ireturn (pc := 11) dX8_gram_11 rfl
noncomputable def f_X8_grama {d : Nat} : List zV → zH d → zP d → Bool := zfn 5 b_X8_grama
theorem m_X8_grama {d : Nat} : zMet (d := d) X_X8_gram yX8_gram 2 f_X8_grama := zmet_mk (X := X_X8_gram) (by decide) rfl rfl s_X8_grama

noncomputable def bX8_blocka_30 {d : Nat} (P : zP d) : zK d := (xpI 4294967295 (xiret P))
set_option maxRecDepth 100000 in
set_option maxHeartbeats 4000000 in
theorem sbX8_blocka_30 {d : Nat} [zGh] (P : zP d) : zSim X_X8_block 1 P 30 (bX8_blocka_30 P) := by
  unfold bX8_blocka_30
  refine sm_iconst (pc := 30) dX8_block_30 zc_i_m1 ?_
  exact sm_ireturn (pc := 31) dX8_block_31 rfl
noncomputable def bX8_blocka_122 {d : Nat} (P : zP d) : zK d := (xpI 4294967295 (xiret P))
set_option maxRecDepth 100000 in
set_option maxHeartbeats 4000000 in
theorem sbX8_blocka_122 {d : Nat} [zGh] (P : zP d) : zSim X_X8_block 1 P 122 (bX8_blocka_122 P) := by
  unfold bX8_blocka_122
  refine sm_iconst (pc := 122) dX8_block_122 zc_i_m1 ?_
  exact sm_ireturn (pc := 123) dX8_block_123 rfl
noncomputable def bX8_blocka_72 {d : Nat} (P : zP d) : zK d := (xald 3 (xgfR 16 5 (xild 1 (xalQ 0 (xiret P)))))
set_option maxRecDepth 100000 in
set_option maxHeartbeats 4000000 in
theorem sbX8_blocka_72 {d : Nat} [zGh] (P : zP d) : zSim X_X8_block 1 P 72 (bX8_blocka_72 P) := by
  unfold bX8_blocka_72
  refine sm_aload_n (pc := 72) (n := 3) dX8_block_72 rfl ?_
  refine gf_X8_237 (pc := 73) rfl dX8_block_73 ?_
  refine sm_iload_n (pc := 76) (n := 1) dX8_block_76 rfl ?_
  refine sm_ialoadQ (pc := 77) dX8_block_77 ?_
  exact sm_ireturn (pc := 78) dX8_block_78 rfl
noncomputable def bX8_blocka_79 {d : Nat} (P : zP d) : zK d := (xald 3 (xgfR 16 6 (xild 1 (xalQ 0 (xiret P)))))
set_option maxRecDepth 100000 in
set_option maxHeartbeats 4000000 in
theorem sbX8_blocka_79 {d : Nat} [zGh] (P : zP d) : zSim X_X8_block 1 P 79 (bX8_blocka_79 P) := by
  unfold bX8_blocka_79
  refine sm_aload_n (pc := 79) (n := 3) dX8_block_79 rfl ?_
  refine gf_X8_240 (pc := 80) rfl dX8_block_80 ?_
  refine sm_iload_n (pc := 83) (n := 1) dX8_block_83 rfl ?_
  refine sm_ialoadQ (pc := 84) dX8_block_84 ?_
  exact sm_ireturn (pc := 85) dX8_block_85 rfl
noncomputable def bX8_blocka_86 {d : Nat} (P : zP d) : zK d := (xald 3 (xgfR 16 0 (xald 3 (xgfR 16 4 (xild 1 (xalQ 0 (xalQ 0 (xiret P))))))))
set_option maxRecDepth 100000 in
set_option maxHeartbeats 4000000 in
theorem sbX8_blocka_86 {d : Nat} [zGh] (P : zP d) : zSim X_X8_block 1 P 86 (bX8_blocka_86 P) := by
  unfold bX8_blocka_86
  refine sm_aload_n (pc := 86) (n := 3) dX8_block_86 rfl ?_
  refine gf_X8_156 (pc := 87) rfl dX8_block_87 ?_
  refine sm_aload_n (pc := 90) (n := 3) dX8_block_90 rfl ?_
  refine gf_X8_243 (pc := 91) rfl dX8_block_91 ?_
  refine sm_iload_n (pc := 94) (n := 1) dX8_block_94 rfl ?_
  refine sm_ialoadQ (pc := 95) dX8_block_95 ?_
  refine sm_ialoadQ (pc := 96) dX8_block_96 ?_
  exact sm_ireturn (pc := 97) dX8_block_97 rfl
noncomputable def bX8_blocka_98 {d : Nat} (P : zP d) : zK d := (xald 3 (xgfR 16 7 (xild 1 (xalQ 0 (xiret P)))))
set_option maxRecDepth 100000 in
set_option maxHeartbeats 4000000 in
theorem sbX8_blocka_98 {d : Nat} [zGh] (P : zP d) : zSim X_X8_block 1 P 98 (bX8_blocka_98 P) := by
  unfold bX8_blocka_98
  refine sm_aload_n (pc := 98) (n := 3) dX8_block_98 rfl ?_
  refine gf_X8_246 (pc := 99) rfl dX8_block_99 ?_
  refine sm_iload_n (pc := 102) (n := 1) dX8_block_102 rfl ?_
  refine sm_ialoadQ (pc := 103) dX8_block_103 ?_
  exact sm_ireturn (pc := 104) dX8_block_104 rfl
noncomputable def bX8_blocka_105 {d : Nat} (P : zP d) : zK d := (xald 3 (xgfR 16 4 (xild 1 (xalQ 0 (xiret P)))))
set_option maxRecDepth 100000 in
set_option maxHeartbeats 4000000 in
theorem sbX8_blocka_105 {d : Nat} [zGh] (P : zP d) : zSim X_X8_block 1 P 105 (bX8_blocka_105 P) := by
  unfold bX8_blocka_105
  refine sm_aload_n (pc := 105) (n := 3) dX8_block_105 rfl ?_
  refine gf_X8_243 (pc := 106) rfl dX8_block_106 ?_
  refine sm_iload_n (pc := 109) (n := 1) dX8_block_109 rfl ?_
  refine sm_ialoadQ (pc := 110) dX8_block_110 ?_
  exact sm_ireturn (pc := 111) dX8_block_111 rfl
noncomputable def bX8_blocka_112 {d : Nat} (P : zP d) : zK d := (xald 0 (xgfR 24 7 (xgfR 21 11 (xild 1 (xalQ 0 (xiret P))))))
set_option maxRecDepth 100000 in
set_option maxHeartbeats 4000000 in
theorem sbX8_blocka_112 {d : Nat} [zGh] (P : zP d) : zSim X_X8_block 1 P 112 (bX8_blocka_112 P) := by
  unfold bX8_blocka_112
  refine sm_aload_n (pc := 112) (n := 0) dX8_block_112 rfl ?_
  refine gf_X8_47 (pc := 113) rfl dX8_block_113 ?_
  refine gf_X8_249 (pc := 116) rfl dX8_block_116 ?_
  refine sm_iload_n (pc := 119) (n := 1) dX8_block_119 rfl ?_
  refine sm_ialoadQ (pc := 120) dX8_block_120 ?_
  exact sm_ireturn (pc := 121) dX8_block_121 rfl
noncomputable def b_X8_blocka {d : Nat} (P : zP d) : zK d := (xald 0 (xgfR 24 7 (xgfR 21 10 (xast 3 (xild 2 (xpI 4294967295 (xcmpS teqR rlEq rhEq rlNe rhNe (xald 3 (xgfI 16 3 (xiret P))) (xild 1 (xjoin (bX8_blocka_30 P) (fun j30 => (xif0S tgeR rlGe rhS rlS rhLt (xild 1 (xald 3 (xgfI 16 3 (xcmpS tgeR rlGe rhS rlS rhLt j30 (xild 2 (xtswR 5 [(bX8_blocka_72 P), (bX8_blocka_79 P), (bX8_blocka_86 P), (bX8_blocka_98 P), (bX8_blocka_105 P), (bX8_blocka_112 P)] (bX8_blocka_122 P))))))) j30)))))))))))
set_option maxRecDepth 100000 in
set_option maxHeartbeats 4000000 in
theorem s_X8_blocka {d : Nat} [zGh] (P : zP d) : zSim X_X8_block 1 P 0 (b_X8_blocka P) := by
  unfold b_X8_blocka
  refine sm_aload_n (pc := 0) (n := 0) dX8_block_0 rfl ?_
  refine gf_X8_47 (pc := 1) rfl dX8_block_1 ?_
  refine gf_X8_152 (pc := 4) rfl dX8_block_4 ?_
  refine sm_astore_n (pc := 7) (n := 3) dX8_block_7 rfl ?_
  refine sm_iload_n (pc := 8) (n := 2) dX8_block_8 rfl ?_
  refine sm_iconst (pc := 9) dX8_block_9 zc_i_m1 ?_
  refine sm_icmpS_ne (pc := 10) (tgt := 18) dX8_block_10 (by decide) ?_ ?_
  · skip
    refine sm_iload_n (pc := 18) (n := 1) dX8_block_18 rfl ?_
    refine sm_joinJ (pc := 19) (pc' := 30) (j := 1) (fun G0 hG0 => @sbX8_blocka_30 d G0 P) (fun j30 hj30 => ?_)
    refine sm_ifS_lt (pc := 19) (tgt := 30) dX8_block_19 (by decide) ?_ ?_
    · skip
      exact hj30.use
    · skip
      refine sm_iload_n (pc := 22) (n := 1) dX8_block_22 rfl ?_
      refine sm_aload_n (pc := 23) (n := 3) dX8_block_23 rfl ?_
      refine gf_X8_236 (pc := 24) rfl dX8_block_24 ?_
      refine sm_icmpS_lt (pc := 27) (tgt := 32) dX8_block_27 (by decide) ?_ ?_
      · skip
        refine sm_iload_n (pc := 32) (n := 2) dX8_block_32 rfl ?_
        exact sm_tswR (pc := 33) (n := 5) (tdf := 122) [72, 79, 86, 98, 105, 112] rfl (by decide) dX8_block_33 rfl (by decide +kernel) (by decide) (sbX8_blocka_122 P) ⟨sbX8_blocka_72 P, sbX8_blocka_79 P, sbX8_blocka_86 P, sbX8_blocka_98 P, sbX8_blocka_105 P, sbX8_blocka_112 P, trivial⟩
      · skip
        exact hj30.use
  · skip
    refine sm_aload_n (pc := 13) (n := 3) dX8_block_13 rfl ?_
    refine gf_X8_236 (pc := 14) rfl dX8_block_14 ?_
    exact sm_ireturn (pc := 17) dX8_block_17 rfl
noncomputable def f_X8_blocka {d : Nat} : List zV → zH d → zP d → Bool := zfn 4 b_X8_blocka
theorem m_X8_blocka {d : Nat} : zMet (d := d) X_X8_block yX8_block 1 f_X8_blocka := zmet_mk (X := X_X8_block) (by decide) rfl rfl s_X8_blocka

noncomputable def bX8_valuea_29 {d : Nat} (P : zP d) : zK d := (xlret P)
set_option maxRecDepth 100000 in
set_option maxHeartbeats 4000000 in
theorem sbX8_valuea_29 {d : Nat} [zGh] (P : zP d) : zSim X_X8_value 2 P 29 (bX8_valuea_29 P) := by
  unfold bX8_valuea_29
  exact sm_lreturn (pc := 29) dX8_value_29 rfl
noncomputable def bX8_valuea_26 {d : Nat} (P : zP d) (j29 : zK d) : zK d := (xpL 9223372036854775808 j29)
set_option maxRecDepth 100000 in
set_option maxHeartbeats 4000000 in
theorem sbX8_valuea_26 {d : Nat} [zGh] (P : zP d) (j29 : zK d) (hj29 : zSimJ 1 X_X8_value 2 P 29 j29) : zSim X_X8_value 2 P 26 (bX8_valuea_26 P j29) := by
  unfold bX8_valuea_26
  refine sm_ldc2 (pc := 26) dX8_value_26 wd_850 zc_cl_m9223372036854775808 ?_
  exact hj29.use
noncomputable def b_X8_valuea {d : Nat} (P : zP d) : zK d := (xild 1 (xcS 1 0 0 (zstr f_X8_isSlota) (xjoin (bX8_valuea_29 P) (fun j29 => (xjoin (bX8_valuea_26 P j29) (fun j26 => (xif0S teqR rlEq rhEq rlNe rhNe j26 (xald 0 (xild 2 (xcV 24 2 0 0 (zstr f_X8_isPartitiona) (xif0S teqR rlEq rhEq rlNe rhNe j26 (xald 0 (xgfR 24 2 (xild 1 (xaaT (xild 2 (xlal j29)))))))))))))))))
set_option maxRecDepth 100000 in
set_option maxHeartbeats 4000000 in
theorem s_X8_valuea {d : Nat} [zGh] (P : zP d) : zSim X_X8_value 2 P 0 (b_X8_valuea P) := by
  unfold b_X8_valuea
  refine sm_iload_n (pc := 0) (n := 1) dX8_value_0 rfl ?_
  refine sm_cS (pc := 1) (n := 1) (mc := 0) (ms := 0) (zMet_str m_X8_isSlota) (cr_X8_88 (X := X_X8_value) (fr := 2) (frc := 1) (pc := 1) (mc := 0) (ms := 0) rfl (by decide) dX8_value_1) ?_
  refine sm_joinJ (pc := 4) (pc' := 29) (j := 1) (fun G0 hG0 => @sbX8_valuea_29 d G0 P) (fun j29 hj29 => ?_)
  refine sm_joinJ (pc := 4) (pc' := 26) (j := 1) (fun G0 hG0 => @sbX8_valuea_26 d G0 P j29 (hj29.mv hG0 (by decide))) (fun j26 hj26 => ?_)
  refine sm_ifS_eq (pc := 4) (tgt := 26) dX8_value_4 (by decide) ?_ ?_
  · skip
    exact hj26.use
  · skip
    refine sm_aload_n (pc := 7) (n := 0) dX8_value_7 rfl ?_
    refine sm_iload_n (pc := 8) (n := 2) dX8_value_8 rfl ?_
    refine sm_cV (pc := 9) (ci := 8) (n := 2) (mc := 0) (ms := 0) rfl (zMet_str m_X8_isPartitiona) (cr_X8_126 (X := X_X8_value) (fr := 2) (frc := 1) (pc := 9) (mc := 0) (ms := 0) rfl (by decide) dX8_value_9) ?_
    refine sm_ifS_eq (pc := 12) (tgt := 26) dX8_value_12 (by decide) ?_ ?_
    · skip
      exact hj26.use
    · skip
      refine sm_aload_n (pc := 15) (n := 0) dX8_value_15 rfl ?_
      refine gf_X8_23 (pc := 16) rfl dX8_value_16 ?_
      refine sm_iload_n (pc := 19) (n := 1) dX8_value_19 rfl ?_
      refine sm_aaloadT (pc := 20) dX8_value_20 ?_
      refine sm_iload_n (pc := 21) (n := 2) dX8_value_21 rfl ?_
      refine sm_laload (pc := 22) dX8_value_22 ?_
      refine sm_goto (pc := 23) (tgt := 29) dX8_value_23 (by decide) ?_
      exact hj29.use
noncomputable def f_X8_valuea {d : Nat} : List zV → zH d → zP d → Bool := zfn 3 b_X8_valuea
theorem m_X8_valuea {d : Nat} : zMet (d := d) X_X8_value yX8_value 2 f_X8_valuea := zmet_mk (X := X_X8_value) (by decide) rfl rfl s_X8_valuea

noncomputable def bX8_partsa_24 {d : Nat} (P : zP d) : zK d := (xpL 9223372036854775808 (xlret P))
set_option maxRecDepth 100000 in
set_option maxHeartbeats 4000000 in
theorem sbX8_partsa_24 {d : Nat} [zGh] (P : zP d) : zSim X_X8_parts 2 P 24 (bX8_partsa_24 P) := by
  unfold bX8_partsa_24
  refine sm_ldc2 (pc := 24) dX8_parts_24 wd_850 zc_cl_m9223372036854775808 ?_
  exact sm_lreturn (pc := 27) dX8_parts_27 rfl
noncomputable def bX8_partsa_133 {d : Nat} (P : zP d) : zK d := (xlret P)
set_option maxRecDepth 100000 in
set_option maxHeartbeats 4000000 in
theorem sbX8_partsa_133 {d : Nat} [zGh] (P : zP d) : zSim X_X8_parts 2 P 133 (bX8_partsa_133 P) := by
  unfold bX8_partsa_133
  exact sm_lreturn (pc := 133) dX8_parts_133 rfl
noncomputable def cX8_partsa_122 {d : Nat} (P : zP d) (j133 : zK d) : zK d := (xald 0 (xgfR 24 6 (xgfI 23 2 (xi2lR (xlld 7 (xbinjN zdivj j133))))))
set_option maxRecDepth 100000 in
set_option maxHeartbeats 4000000 in
theorem scX8_partsa_122 {d : Nat} [zGh] (P : zP d) (j133 : zK d) (hj133 : zSimJ 1 X_X8_parts 2 P 133 j133) : zSim X_X8_parts 2 P 122 (cX8_partsa_122 P j133) := by
  unfold cX8_partsa_122
  refine sm_aload_n (pc := 122) (n := 0) dX8_parts_122 rfl ?_
  refine gf_X8_40 (pc := 123) rfl dX8_parts_123 ?_
  refine gf_X8_266 (pc := 126) rfl dX8_parts_126 ?_
  refine sm_i2lR (pc := 129) dX8_parts_129 ?_
  refine sm_lload (pc := 130) (n := 7) dX8_parts_130 ?_
  refine sm_ldiv (pc := 132) dX8_parts_132 ?_
  exact hj133.use
noncomputable def cX8_partsa_114 {d : Nat} (P : zP d) (j133 : zK d) : zK d := (xlld 5 (xlld 7 (xbinjN zdivj j133)))
set_option maxRecDepth 100000 in
set_option maxHeartbeats 4000000 in
theorem scX8_partsa_114 {d : Nat} [zGh] (P : zP d) (j133 : zK d) (hj133 : zSimJ 1 X_X8_parts 2 P 133 j133) : zSim X_X8_parts 2 P 114 (cX8_partsa_114 P j133) := by
  unfold cX8_partsa_114
  refine sm_lload (pc := 114) (n := 5) dX8_parts_114 ?_
  refine sm_lload (pc := 116) (n := 7) dX8_parts_116 ?_
  refine sm_ldiv (pc := 118) dX8_parts_118 ?_
  refine sm_goto (pc := 119) (tgt := 133) dX8_parts_119 (by decide) ?_
  exact hj133.use
noncomputable def bX8_partsa_65 {d : Nat} (P : zP d) : zK d := (xald 0 (xald 0 (xgfR 24 2 (xild 1 (xaaT (xild 2 (xild 4 (xcV 24 4 0 0 (zstr f_X8_timesFactorial) (xlst 5 (xlld 5 (xabsj (xald 0 (xgfR 24 6 (xgfI 23 2 (xi2lR (xcS 2 0 0 (zstr f_X8_greatestDivisor) (xlst 7 (xlld 7 (xpL 0 (xlcmpR (xif0S teqR rlEq rhEq rlNe rhNe (xpL 9223372036854775808 (xlret P)) (xild 3 (xpI 2 (xjoin (bX8_partsa_133 P) (fun j133 => (xcmpS tgeR rlGe rhS rlS rhLt (cX8_partsa_122 P j133) (cX8_partsa_114 P j133)))))))))))))))))))))))))))
set_option maxRecDepth 100000 in
set_option maxHeartbeats 4000000 in
theorem sbX8_partsa_65 {d : Nat} [zGh] (P : zP d) : zSim X_X8_parts 2 P 65 (bX8_partsa_65 P) := by
  unfold bX8_partsa_65
  refine sm_aload_n (pc := 65) (n := 0) dX8_parts_65 rfl ?_
  refine sm_aload_n (pc := 66) (n := 0) dX8_parts_66 rfl ?_
  refine gf_X8_23 (pc := 67) rfl dX8_parts_67 ?_
  refine sm_iload_n (pc := 70) (n := 1) dX8_parts_70 rfl ?_
  refine sm_aaloadT (pc := 71) dX8_parts_71 ?_
  refine sm_iload_n (pc := 72) (n := 2) dX8_parts_72 rfl ?_
  refine sm_iload (pc := 73) (n := 4) dX8_parts_73 ?_
  refine sm_cV (pc := 75) (ci := 8) (n := 4) (mc := 0) (ms := 0) rfl (zMet_str m_X8_timesFactorial) (cr_X8_256 (X := X_X8_parts) (fr := 2) (frc := 1) (pc := 75) (mc := 0) (ms := 0) rfl (by decide) dX8_parts_75) ?_
  refine sm_lstore (pc := 78) (n := 5) dX8_parts_78 ?_
  refine sm_lload (pc := 80) (n := 5) dX8_parts_80 ?_
  refine sm_mabsj (pc := 82) wd_859 wd_763 wd_6 wd_764 (by decide) dX8_parts_82 ?_
  refine sm_aload_n (pc := 85) (n := 0) dX8_parts_85 rfl ?_
  refine gf_X8_40 (pc := 86) rfl dX8_parts_86 ?_
  refine gf_X8_266 (pc := 89) rfl dX8_parts_89 ?_
  refine sm_i2lR (pc := 92) dX8_parts_92 ?_
  refine sm_cS (pc := 93) (n := 2) (mc := 0) (ms := 0) (zMet_str m_X8_greatestDivisor) (cr_X8_269 (X := X_X8_parts) (fr := 2) (frc := 1) (pc := 93) (mc := 0) (ms := 0) rfl (by decide) dX8_parts_93) ?_
  refine sm_lstore (pc := 96) (n := 7) dX8_parts_96 ?_
  refine sm_lload (pc := 98) (n := 7) dX8_parts_98 ?_
  refine sm_lconst (pc := 100) dX8_parts_100 zc_l_0 ?_
  refine sm_lcmpR (pc := 101) dX8_parts_101 ?_
  refine sm_ifS_ne (pc := 102) (tgt := 109) dX8_parts_102 (by decide) ?_ ?_
  · skip
    refine sm_iload_n (pc := 109) (n := 3) dX8_parts_109 rfl ?_
    refine sm_iconst (pc := 110) dX8_parts_110 zc_i_2 ?_
    refine sm_joinJ (pc := 111) (pc' := 133) (j := 1) (fun G0 hG0 => @sbX8_partsa_133 d G0 P) (fun j133 hj133 => ?_)
    refine sm_icmpS_ge (pc := 111) (tgt := 122) dX8_parts_111 (by decide) ?_ ?_
    · skip
      exact scX8_partsa_122 P j133 hj133
    · skip
      exact scX8_partsa_114 P j133 hj133
  · skip
    refine sm_ldc2 (pc := 105) dX8_parts_105 wd_850 zc_cl_m9223372036854775808 ?_
    exact sm_lreturn (pc := 108) dX8_parts_108 rfl
noncomputable def bX8_partsa_43 {d : Nat} (P : zP d) : zK d := (xist 4 (xild 4 (xjoin (bX8_partsa_65 P) (fun j65 => (xif0S teqR rlEq rhEq rlNe rhNe j65 (xald 0 (xgfR 24 7 (xild 2 (xcV 21 2 0 0 (zstr f_X5_isRegular) (xif0S teqR rlEq rhEq rlNe rhNe (xpL 9223372036854775808 (xlret P)) j65))))))))))
set_option maxRecDepth 100000 in
set_option maxHeartbeats 4000000 in
theorem sbX8_partsa_43 {d : Nat} [zGh] (P : zP d) : zSim X_X8_parts 2 P 43 (bX8_partsa_43 P) := by
  unfold bX8_partsa_43
  refine sm_istore (pc := 43) (n := 4) dX8_parts_43 ?_
  refine sm_iload (pc := 45) (n := 4) dX8_parts_45 ?_
  refine sm_joinJ (pc := 47) (pc' := 65) (j := 1) (fun G0 hG0 => @sbX8_partsa_65 d G0 P) (fun j65 hj65 => ?_)
  refine sm_ifS_eq (pc := 47) (tgt := 65) dX8_parts_47 (by decide) ?_ ?_
  · skip
    exact hj65.use
  · skip
    refine sm_aload_n (pc := 50) (n := 0) dX8_parts_50 rfl ?_
    refine gf_X8_47 (pc := 51) rfl dX8_parts_51 ?_
    refine sm_iload_n (pc := 54) (n := 2) dX8_parts_54 rfl ?_
    refine sm_cV (pc := 55) (ci := 5) (n := 2) (mc := 0) (ms := 0) rfl (zMet_str m_X5_isRegular) (cr_X8_145 (X := X_X8_parts) (fr := 2) (frc := 1) (pc := 55) (mc := 0) (ms := 0) rfl (by decide) dX8_parts_55) ?_
    refine sm_ifS_ne (pc := 58) (tgt := 65) dX8_parts_58 (by decide) ?_ ?_
    · skip
      exact hj65.use
    · skip
      refine sm_ldc2 (pc := 61) dX8_parts_61 wd_850 zc_cl_m9223372036854775808 ?_
      exact sm_lreturn (pc := 64) dX8_parts_64 rfl
noncomputable def bX8_partsa_38 {d : Nat} (P : zP d) (j43 : zK d) : zK d := (xpI 1 j43)
set_option maxRecDepth 100000 in
set_option maxHeartbeats 4000000 in
theorem sbX8_partsa_38 {d : Nat} [zGh] (P : zP d) (j43 : zK d) (hj43 : zSimJ 1 X_X8_parts 2 P 43 j43) : zSim X_X8_parts 2 P 38 (bX8_partsa_38 P j43) := by
  unfold bX8_partsa_38
  refine sm_iconst (pc := 38) dX8_parts_38 zc_i_1 ?_
  refine sm_goto (pc := 39) (tgt := 43) dX8_parts_39 (by decide) ?_
  exact hj43.use
noncomputable def b_X8_partsa {d : Nat} (P : zP d) : zK d := (xild 1 (xcS 1 0 0 (zstr f_X8_isSlota) (xjoin (bX8_partsa_24 P) (fun j24 => (xif0S teqR rlEq rhEq rlNe rhNe j24 (xald 0 (xild 2 (xcV 24 2 0 0 (zstr f_X8_isPartitiona) (xif0S teqR rlEq rhEq rlNe rhNe j24 (xild 3 (xif0S tgeR rlGe rhS rlS rhLt (xild 3 (xpI 3 (xcmpS tleR rlS rhLe rlGt rhS (xild 3 (xpI 1 (xjoin (bX8_partsa_43 P) (fun j43 => (xjoin (bX8_partsa_38 P j43) (fun j38 => (xcmpS teqR rlEq rhEq rlNe rhNe j38 (xild 3 (xpI 3 (xcmpS teqR rlEq rhEq rlNe rhNe j38 (xpI 0 j43))))))))))) j24))) j24)))))))))))
set_option maxRecDepth 100000 in
set_option maxHeartbeats 4000000 in
theorem s_X8_partsa {d : Nat} [zGh] (P : zP d) : zSim X_X8_parts 2 P 0 (b_X8_partsa P) := by
  unfold b_X8_partsa
  refine sm_iload_n (pc := 0) (n := 1) dX8_parts_0 rfl ?_
  refine sm_cS (pc := 1) (n := 1) (mc := 0) (ms := 0) (zMet_str m_X8_isSlota) (cr_X8_88 (X := X_X8_parts) (fr := 2) (frc := 1) (pc := 1) (mc := 0) (ms := 0) rfl (by decide) dX8_parts_1) ?_
  refine sm_joinJ (pc := 4) (pc' := 24) (j := 1) (fun G0 hG0 => @sbX8_partsa_24 d G0 P) (fun j24 hj24 => ?_)
  refine sm_ifS_eq (pc := 4) (tgt := 24) dX8_parts_4 (by decide) ?_ ?_
  · skip
    exact hj24.use
  · skip
    refine sm_aload_n (pc := 7) (n := 0) dX8_parts_7 rfl ?_
    refine sm_iload_n (pc := 8) (n := 2) dX8_parts_8 rfl ?_
    refine sm_cV (pc := 9) (ci := 8) (n := 2) (mc := 0) (ms := 0) rfl (zMet_str m_X8_isPartitiona) (cr_X8_126 (X := X_X8_parts) (fr := 2) (frc := 1) (pc := 9) (mc := 0) (ms := 0) rfl (by decide) dX8_parts_9) ?_
    refine sm_ifS_eq (pc := 12) (tgt := 24) dX8_parts_12 (by decide) ?_ ?_
    · skip
      exact hj24.use
    · skip
      refine sm_iload_n (pc := 15) (n := 3) dX8_parts_15 rfl ?_
      refine sm_ifS_lt (pc := 16) (tgt := 24) dX8_parts_16 (by decide) ?_ ?_
      · skip
        exact hj24.use
      · skip
        refine sm_iload_n (pc := 19) (n := 3) dX8_parts_19 rfl ?_
        refine sm_iconst (pc := 20) dX8_parts_20 zc_i_3 ?_
        refine sm_icmpS_le (pc := 21) (tgt := 28) dX8_parts_21 (by decide) ?_ ?_
        · skip
          refine sm_iload_n (pc := 28) (n := 3) dX8_parts_28 rfl ?_
          refine sm_iconst (pc := 29) dX8_parts_29 zc_i_1 ?_
          refine sm_joinJ (pc := 30) (pc' := 43) (j := 1) (fun G0 hG0 => @sbX8_partsa_43 d G0 P) (fun j43 hj43 => ?_)
          refine sm_joinJ (pc := 30) (pc' := 38) (j := 1) (fun G0 hG0 => @sbX8_partsa_38 d G0 P j43 (hj43.mv hG0 (by decide))) (fun j38 hj38 => ?_)
          refine sm_icmpS_eq (pc := 30) (tgt := 38) dX8_parts_30 (by decide) ?_ ?_
          · skip
            exact hj38.use
          · skip
            refine sm_iload_n (pc := 33) (n := 3) dX8_parts_33 rfl ?_
            refine sm_iconst (pc := 34) dX8_parts_34 zc_i_3 ?_
            refine sm_icmpS_ne (pc := 35) (tgt := 42) dX8_parts_35 (by decide) ?_ ?_
            · skip
              refine sm_iconst (pc := 42) dX8_parts_42 zc_i_0 ?_
              exact hj43.use
            · skip
              exact hj38.use
        · skip
          exact hj24.use
noncomputable def f_X8_partsa {d : Nat} : List zV → zH d → zP d → Bool := zfn 9 b_X8_partsa
theorem m_X8_partsa {d : Nat} : zMet (d := d) X_X8_parts yX8_parts 2 f_X8_partsa := zmet_mk (X := X_X8_parts) (by decide) rfl rfl s_X8_partsa

noncomputable def bX8_innera_14 {d : Nat} (P : zP d) : zK d := (xpL 18446744073709551615 (xlret P))
set_option maxRecDepth 100000 in
set_option maxHeartbeats 4000000 in
theorem sbX8_innera_14 {d : Nat} [zGh] (P : zP d) : zSim X_X8_inner 2 P 14 (bX8_innera_14 P) := by
  unfold bX8_innera_14
  refine sm_ldc2 (pc := 14) dX8_inner_14 wd_865 zc_cl_m1 ?_
  exact sm_lreturn (pc := 17) dX8_inner_17 rfl
noncomputable def cX8_innera_65 {d : Nat} (P : zP d) (r23 : zK d) : zK d := (xlal (xbinj zmulj (xbinj zaddj (xlst 3 (xincR 5 1 r23)))))
set_option maxRecDepth 100000 in
set_option maxHeartbeats 4000000 in
theorem scX8_innera_65 {d : Nat} [zGh] (P : zP d) (r23 : zK d) (hr23 : zSimJ 1 X_X8_inner 2 P 23 r23) : zSim X_X8_inner 2 P 65 (cX8_innera_65 P r23) := by
  unfold cX8_innera_65
  refine sm_laload (pc := 65) dX8_inner_65 ?_
  refine sm_lmul (pc := 66) dX8_inner_66 ?_
  refine sm_ladd (pc := 67) dX8_inner_67 ?_
  refine sm_lstore_n (pc := 68) (n := 3) dX8_inner_68 rfl ?_
  refine sm_iincR (pc := 69) (n := 5) dX8_inner_69 zc_i_1 ?_
  refine sm_goto (pc := 72) (tgt := 23) dX8_inner_72 (by decide) ?_
  exact hr23.use
noncomputable def lX8_innera_23 {d : Nat} (P : zP d) (r23 : zK d) : zK d := (xild 5 (xald 0 (xgfR 24 6 (xgfI 23 1 (xcmpS tgeR rlGe rhS rlS rhLt (xlld 3 (xlret P)) (xlld 3 (xald 0 (xgfR 24 6 (xgfR 23 5 (xild 5 (xalQ 0 (xi2lR (xald 0 (xgfR 24 2 (xild 1 (xaaT (xild 5 (xlal (xbinj zmulj (xald 0 (xgfR 24 2 (xild 2 (xaaT (xild 5 (cX8_innera_65 P r23)))))))))))))))))))))))))
set_option maxRecDepth 100000 in
set_option maxHeartbeats 4000000 in
theorem slX8_innera_23 {d : Nat} [zGh] (P : zP d) (r23 : zK d) (hr23 : zSimJ 1 X_X8_inner 2 P 23 r23) : zSim X_X8_inner 2 P 23 (lX8_innera_23 P r23) := by
  unfold lX8_innera_23
  refine sm_iload (pc := 23) (n := 5) dX8_inner_23 ?_
  refine sm_aload_n (pc := 25) (n := 0) dX8_inner_25 rfl ?_
  refine gf_X8_40 (pc := 26) rfl dX8_inner_26 ?_
  refine gf_X8_74 (pc := 29) rfl dX8_inner_29 ?_
  refine sm_icmpS_ge (pc := 32) (tgt := 75) dX8_inner_32 (by decide) ?_ ?_
  · skip
    refine sm_lload_n (pc := 75) (n := 3) dX8_inner_75 rfl ?_
    exact sm_lreturn (pc := 76) dX8_inner_76 rfl
  · skip
    refine sm_lload_n (pc := 35) (n := 3) dX8_inner_35 rfl ?_
    refine sm_aload_n (pc := 36) (n := 0) dX8_inner_36 rfl ?_
    refine gf_X8_40 (pc := 37) rfl dX8_inner_37 ?_
    refine gf_X8_193 (pc := 40) rfl dX8_inner_40 ?_
    refine sm_iload (pc := 43) (n := 5) dX8_inner_43 ?_
    refine sm_ialoadQ (pc := 45) dX8_inner_45 ?_
    refine sm_i2lR (pc := 46) dX8_inner_46 ?_
    refine sm_aload_n (pc := 47) (n := 0) dX8_inner_47 rfl ?_
    refine gf_X8_23 (pc := 48) rfl dX8_inner_48 ?_
    refine sm_iload_n (pc := 51) (n := 1) dX8_inner_51 rfl ?_
    refine sm_aaloadT (pc := 52) dX8_inner_52 ?_
    refine sm_iload (pc := 53) (n := 5) dX8_inner_53 ?_
    refine sm_laload (pc := 55) dX8_inner_55 ?_
    refine sm_lmul (pc := 56) dX8_inner_56 ?_
    refine sm_aload_n (pc := 57) (n := 0) dX8_inner_57 rfl ?_
    refine gf_X8_23 (pc := 58) rfl dX8_inner_58 ?_
    refine sm_iload_n (pc := 61) (n := 2) dX8_inner_61 rfl ?_
    refine sm_aaloadT (pc := 62) dX8_inner_62 ?_
    refine sm_iload (pc := 63) (n := 5) dX8_inner_63 ?_
    exact scX8_innera_65 P r23 hr23
noncomputable def b_X8_innera {d : Nat} (P : zP d) : zK d := (xild 1 (xcS 1 0 0 (zstr f_X8_isSlota) (xjoin (bX8_innera_14 P) (fun j14 => (xif0S teqR rlEq rhEq rlNe rhNe j14 (xild 2 (xcS 1 0 0 (zstr f_X8_isSlota) (xif0S teqR rlEq rhEq rlNe rhNe j14 (xpL 0 (xlst 3 (xpI 0 (xist 5 (xloop (fun r23 => (lX8_innera_23 P r23)) 100000)))))))))))))
set_option maxRecDepth 100000 in
set_option maxHeartbeats 4000000 in
theorem s_X8_innera {d : Nat} [zGh] (P : zP d) : zSim X_X8_inner 2 P 0 (b_X8_innera P) := by
  unfold b_X8_innera
  refine sm_iload_n (pc := 0) (n := 1) dX8_inner_0 rfl ?_
  refine sm_cS (pc := 1) (n := 1) (mc := 0) (ms := 0) (zMet_str m_X8_isSlota) (cr_X8_88 (X := X_X8_inner) (fr := 2) (frc := 1) (pc := 1) (mc := 0) (ms := 0) rfl (by decide) dX8_inner_1) ?_
  refine sm_joinJ (pc := 4) (pc' := 14) (j := 1) (fun G0 hG0 => @sbX8_innera_14 d G0 P) (fun j14 hj14 => ?_)
  refine sm_ifS_eq (pc := 4) (tgt := 14) dX8_inner_4 (by decide) ?_ ?_
  · skip
    exact hj14.use
  · skip
    refine sm_iload_n (pc := 7) (n := 2) dX8_inner_7 rfl ?_
    refine sm_cS (pc := 8) (n := 1) (mc := 0) (ms := 0) (zMet_str m_X8_isSlota) (cr_X8_88 (X := X_X8_inner) (fr := 2) (frc := 1) (pc := 8) (mc := 0) (ms := 0) rfl (by decide) dX8_inner_8) ?_
    refine sm_ifS_ne (pc := 11) (tgt := 18) dX8_inner_11 (by decide) ?_ ?_
    · skip
      refine sm_lconst (pc := 18) dX8_inner_18 zc_l_0 ?_
      refine sm_lstore_n (pc := 19) (n := 3) dX8_inner_19 rfl ?_
      refine sm_iconst (pc := 20) dX8_inner_20 zc_i_0 ?_
      refine sm_istore (pc := 21) (n := 5) dX8_inner_21 ?_
      exact (sm_loopJ (j := 1) (fun G1 hG1 r23 hr23 => @slX8_innera_23 d G1 P r23 hr23) _).use
    · skip
      exact hj14.use
noncomputable def f_X8_innera {d : Nat} : List zV → zH d → zP d → Bool := zfn 6 b_X8_innera
theorem m_X8_innera {d : Nat} : zMet (d := d) X_X8_inner yX8_inner 2 f_X8_innera := zmet_mk (X := X_X8_inner) (by decide) rfl rfl s_X8_innera

noncomputable def bX8_kinda_105 {d : Nat} (P : zP d) : zK d := (xpI 4294967295 (xiret P))
set_option maxRecDepth 100000 in
set_option maxHeartbeats 4000000 in
theorem sbX8_kinda_105 {d : Nat} [zGh] (P : zP d) : zSim X_X8_kind 3 P 105 (bX8_kinda_105 P) := by
  unfold bX8_kinda_105
  refine sm_iconst (pc := 105) dX8_kind_105 zc_i_m1 ?_
  exact sm_ireturn (pc := 106) dX8_kind_106 rfl
noncomputable def bX8_kinda_52 {d : Nat} (P : zP d) : zK d := (xald 0 (xald 3 (xcV 24 2 0 0 (zstr f_X8_isZeroOffRegular) (xcS 1 0 0 (zstr f_X8_bit) (xiret P)))))
set_option maxRecDepth 100000 in
set_option maxHeartbeats 4000000 in
theorem sbX8_kinda_52 {d : Nat} [zGh] (P : zP d) : zSim X_X8_kind 3 P 52 (bX8_kinda_52 P) := by
  unfold bX8_kinda_52
  refine sm_aload_n (pc := 52) (n := 0) dX8_kind_52 rfl ?_
  refine sm_aload_n (pc := 53) (n := 3) dX8_kind_53 rfl ?_
  refine sm_cV (pc := 54) (ci := 8) (n := 2) (mc := 0) (ms := 0) rfl (zMet_str m_X8_isZeroOffRegular) (cr_X8_275 (X := X_X8_kind) (fr := 3) (frc := 1) (pc := 54) (mc := 0) (ms := 0) rfl (by decide) dX8_kind_54) ?_
  refine sm_cS (pc := 57) (n := 1) (mc := 0) (ms := 0) (zMet_str m_X8_bit) (cr_X8_148 (X := X_X8_kind) (fr := 3) (frc := 1) (pc := 57) (mc := 0) (ms := 0) rfl (by decide) dX8_kind_57) ?_
  exact sm_ireturn (pc := 60) dX8_kind_60 rfl
noncomputable def bX8_kinda_61 {d : Nat} (P : zP d) : zK d := (xald 0 (xald 3 (xpI 0 (xpI 0 (xcV 24 4 0 0 (zstr f_X8_isWhole) (xcS 1 0 0 (zstr f_X8_bit) (xiret P)))))))
set_option maxRecDepth 100000 in
set_option maxHeartbeats 4000000 in
theorem sbX8_kinda_61 {d : Nat} [zGh] (P : zP d) : zSim X_X8_kind 3 P 61 (bX8_kinda_61 P) := by
  unfold bX8_kinda_61
  refine sm_aload_n (pc := 61) (n := 0) dX8_kind_61 rfl ?_
  refine sm_aload_n (pc := 62) (n := 3) dX8_kind_62 rfl ?_
  refine sm_iconst (pc := 63) dX8_kind_63 zc_i_0 ?_
  refine sm_iconst (pc := 64) dX8_kind_64 zc_i_0 ?_
  refine sm_cV (pc := 65) (ci := 8) (n := 4) (mc := 0) (ms := 0) rfl (zMet_str m_X8_isWhole) (cr_X8_279 (X := X_X8_kind) (fr := 3) (frc := 2) (pc := 65) (mc := 0) (ms := 0) rfl (by decide) dX8_kind_65) ?_
  refine sm_cS (pc := 68) (n := 1) (mc := 0) (ms := 0) (zMet_str m_X8_bit) (cr_X8_148 (X := X_X8_kind) (fr := 3) (frc := 1) (pc := 68) (mc := 0) (ms := 0) rfl (by decide) dX8_kind_68) ?_
  exact sm_ireturn (pc := 71) dX8_kind_71 rfl
noncomputable def bX8_kinda_72 {d : Nat} (P : zP d) : zK d := (xald 0 (xald 3 (xpI 0 (xpI 1 (xcV 24 4 0 0 (zstr f_X8_isWhole) (xcS 1 0 0 (zstr f_X8_bit) (xiret P)))))))
set_option maxRecDepth 100000 in
set_option maxHeartbeats 4000000 in
theorem sbX8_kinda_72 {d : Nat} [zGh] (P : zP d) : zSim X_X8_kind 3 P 72 (bX8_kinda_72 P) := by
  unfold bX8_kinda_72
  refine sm_aload_n (pc := 72) (n := 0) dX8_kind_72 rfl ?_
  refine sm_aload_n (pc := 73) (n := 3) dX8_kind_73 rfl ?_
  refine sm_iconst (pc := 74) dX8_kind_74 zc_i_0 ?_
  refine sm_iconst (pc := 75) dX8_kind_75 zc_i_1 ?_
  refine sm_cV (pc := 76) (ci := 8) (n := 4) (mc := 0) (ms := 0) rfl (zMet_str m_X8_isWhole) (cr_X8_279 (X := X_X8_kind) (fr := 3) (frc := 2) (pc := 76) (mc := 0) (ms := 0) rfl (by decide) dX8_kind_76) ?_
  refine sm_cS (pc := 79) (n := 1) (mc := 0) (ms := 0) (zMet_str m_X8_bit) (cr_X8_148 (X := X_X8_kind) (fr := 3) (frc := 1) (pc := 79) (mc := 0) (ms := 0) rfl (by decide) dX8_kind_79) ?_
  exact sm_ireturn (pc := 82) dX8_kind_82 rfl
noncomputable def bX8_kinda_83 {d : Nat} (P : zP d) : zK d := (xald 0 (xald 3 (xpI 1 (xpI 0 (xcV 24 4 0 0 (zstr f_X8_isWhole) (xcS 1 0 0 (zstr f_X8_bit) (xiret P)))))))
set_option maxRecDepth 100000 in
set_option maxHeartbeats 4000000 in
theorem sbX8_kinda_83 {d : Nat} [zGh] (P : zP d) : zSim X_X8_kind 3 P 83 (bX8_kinda_83 P) := by
  unfold bX8_kinda_83
  refine sm_aload_n (pc := 83) (n := 0) dX8_kind_83 rfl ?_
  refine sm_aload_n (pc := 84) (n := 3) dX8_kind_84 rfl ?_
  refine sm_iconst (pc := 85) dX8_kind_85 zc_i_1 ?_
  refine sm_iconst (pc := 86) dX8_kind_86 zc_i_0 ?_
  refine sm_cV (pc := 87) (ci := 8) (n := 4) (mc := 0) (ms := 0) rfl (zMet_str m_X8_isWhole) (cr_X8_279 (X := X_X8_kind) (fr := 3) (frc := 2) (pc := 87) (mc := 0) (ms := 0) rfl (by decide) dX8_kind_87) ?_
  refine sm_cS (pc := 90) (n := 1) (mc := 0) (ms := 0) (zMet_str m_X8_bit) (cr_X8_148 (X := X_X8_kind) (fr := 3) (frc := 1) (pc := 90) (mc := 0) (ms := 0) rfl (by decide) dX8_kind_90) ?_
  exact sm_ireturn (pc := 93) dX8_kind_93 rfl
noncomputable def bX8_kinda_94 {d : Nat} (P : zP d) : zK d := (xald 0 (xald 3 (xpI 1 (xpI 1 (xcV 24 4 0 0 (zstr f_X8_isWhole) (xcS 1 0 0 (zstr f_X8_bit) (xiret P)))))))
set_option maxRecDepth 100000 in
set_option maxHeartbeats 4000000 in
theorem sbX8_kinda_94 {d : Nat} [zGh] (P : zP d) : zSim X_X8_kind 3 P 94 (bX8_kinda_94 P) := by
  unfold bX8_kinda_94
  refine sm_aload_n (pc := 94) (n := 0) dX8_kind_94 rfl ?_
  refine sm_aload_n (pc := 95) (n := 3) dX8_kind_95 rfl ?_
  refine sm_iconst (pc := 96) dX8_kind_96 zc_i_1 ?_
  refine sm_iconst (pc := 97) dX8_kind_97 zc_i_1 ?_
  refine sm_cV (pc := 98) (ci := 8) (n := 4) (mc := 0) (ms := 0) rfl (zMet_str m_X8_isWhole) (cr_X8_279 (X := X_X8_kind) (fr := 3) (frc := 2) (pc := 98) (mc := 0) (ms := 0) rfl (by decide) dX8_kind_98) ?_
  refine sm_cS (pc := 101) (n := 1) (mc := 0) (ms := 0) (zMet_str m_X8_bit) (cr_X8_148 (X := X_X8_kind) (fr := 3) (frc := 1) (pc := 101) (mc := 0) (ms := 0) rfl (by decide) dX8_kind_101) ?_
  exact sm_ireturn (pc := 104) dX8_kind_104 rfl
noncomputable def b_X8_kinda {d : Nat} (P : zP d) : zK d := (xild 1 (xcS 1 0 0 (zstr f_X8_isSlota) (xif0S teqR rlEq rhEq rlNe rhNe (xpI 4294967295 (xiret P)) (xald 0 (xgfR 24 2 (xild 1 (xaaT (xast 3 (xild 2 (xtswR 4 [(bX8_kinda_52 P), (bX8_kinda_61 P), (bX8_kinda_72 P), (bX8_kinda_83 P), (bX8_kinda_94 P)] (bX8_kinda_105 P)))))))))))
set_option maxRecDepth 100000 in
set_option maxHeartbeats 4000000 in
theorem s_X8_kinda {d : Nat} [zGh] (P : zP d) : zSim X_X8_kind 3 P 0 (b_X8_kinda P) := by
  unfold b_X8_kinda
  refine sm_iload_n (pc := 0) (n := 1) dX8_kind_0 rfl ?_
  refine sm_cS (pc := 1) (n := 1) (mc := 0) (ms := 0) (zMet_str m_X8_isSlota) (cr_X8_88 (X := X_X8_kind) (fr := 3) (frc := 1) (pc := 1) (mc := 0) (ms := 0) rfl (by decide) dX8_kind_1) ?_
  refine sm_ifS_ne (pc := 4) (tgt := 9) dX8_kind_4 (by decide) ?_ ?_
  · skip
    refine sm_aload_n (pc := 9) (n := 0) dX8_kind_9 rfl ?_
    refine gf_X8_23 (pc := 10) rfl dX8_kind_10 ?_
    refine sm_iload_n (pc := 13) (n := 1) dX8_kind_13 rfl ?_
    refine sm_aaloadT (pc := 14) dX8_kind_14 ?_
    refine sm_astore_n (pc := 15) (n := 3) dX8_kind_15 rfl ?_
    refine sm_iload_n (pc := 16) (n := 2) dX8_kind_16 rfl ?_
    exact sm_tswR (pc := 17) (n := 4) (tdf := 105) [52, 61, 72, 83, 94] rfl (by decide) dX8_kind_17 rfl (by decide +kernel) (by decide) (sbX8_kinda_105 P) ⟨sbX8_kinda_52 P, sbX8_kinda_61 P, sbX8_kinda_72 P, sbX8_kinda_83 P, sbX8_kinda_94 P, trivial⟩
  · skip
    refine sm_iconst (pc := 7) dX8_kind_7 zc_i_m1 ?_
    exact sm_ireturn (pc := 8) dX8_kind_8 rfl
noncomputable def f_X8_kinda {d : Nat} : List zV → zH d → zP d → Bool := zfn 4 b_X8_kinda
theorem m_X8_kinda {d : Nat} : zMet (d := d) X_X8_kind yX8_kind 3 f_X8_kinda := zmet_mk (X := X_X8_kind) (by decide) rfl rfl s_X8_kinda

noncomputable def bX8_cuta_32 {d : Nat} (P : zP d) : zK d := (xpI 4294967295 (xiret P))
set_option maxRecDepth 100000 in
set_option maxHeartbeats 4000000 in
theorem sbX8_cuta_32 {d : Nat} [zGh] (P : zP d) : zSim X_X8_cut 2 P 32 (bX8_cuta_32 P) := by
  unfold bX8_cuta_32
  refine sm_iconst (pc := 32) dX8_cut_32 zc_i_m1 ?_
  exact sm_ireturn (pc := 33) dX8_cut_33 rfl
noncomputable def bX8_cuta_128 {d : Nat} (P : zP d) (r45 : zK d) : zK d := (xincR 4 1 r45)
set_option maxRecDepth 100000 in
set_option maxHeartbeats 4000000 in
theorem sbX8_cuta_128 {d : Nat} [zGh] (P : zP d) (r45 : zK d) (hr45 : zSimJ 1 X_X8_cut 2 P 45 r45) : zSim X_X8_cut 2 P 128 (bX8_cuta_128 P r45) := by
  unfold bX8_cuta_128
  refine sm_iincR (pc := 128) (n := 4) dX8_cut_128 zc_i_1 ?_
  refine sm_goto (pc := 131) (tgt := 45) dX8_cut_131 (by decide) ?_
  exact hr45.use
noncomputable def cX8_cuta_95 {d : Nat} (P : zP d) (j128 : zK d) : zK d := (xcV 24 2 0 0 (zstr f_X8_isWholeTimes) (xif0S teqR rlEq rhEq rlNe rhNe (xpI 4294967295 (xiret P)) (xald 0 (xlld 5 (xald 0 (xgfR 24 6 (xgfI 23 2 (xi2lR (xbinjN zdivj (xald 0 (xgfR 24 6 (xgfR 23 12 (xild 4 (xaaT (xcV 24 3 0 0 (zstr f_X8_addTimes) j128)))))))))))))))
set_option maxRecDepth 100000 in
set_option maxHeartbeats 4000000 in
theorem scX8_cuta_95 {d : Nat} [zGh] (P : zP d) (j128 : zK d) (hj128 : zSimJ 1 X_X8_cut 2 P 128 j128) : zSim X_X8_cut 2 P 95 (cX8_cuta_95 P j128) := by
  unfold cX8_cuta_95
  refine sm_cV (pc := 95) (ci := 8) (n := 2) (mc := 0) (ms := 0) rfl (zMet_str m_X8_isWholeTimes) (cr_X8_283 (X := X_X8_cut) (fr := 2) (frc := 1) (pc := 95) (mc := 0) (ms := 0) rfl (by decide) dX8_cut_95) ?_
  refine sm_ifS_ne (pc := 98) (tgt := 103) dX8_cut_98 (by decide) ?_ ?_
  · skip
    refine sm_aload_n (pc := 103) (n := 0) dX8_cut_103 rfl ?_
    refine sm_lload (pc := 104) (n := 5) dX8_cut_104 ?_
    refine sm_aload_n (pc := 106) (n := 0) dX8_cut_106 rfl ?_
    refine gf_X8_40 (pc := 107) rfl dX8_cut_107 ?_
    refine gf_X8_266 (pc := 110) rfl dX8_cut_110 ?_
    refine sm_i2lR (pc := 113) dX8_cut_113 ?_
    refine sm_ldiv (pc := 114) dX8_cut_114 ?_
    refine sm_aload_n (pc := 115) (n := 0) dX8_cut_115 rfl ?_
    refine gf_X8_40 (pc := 116) rfl dX8_cut_116 ?_
    refine gf_X8_209 (pc := 119) rfl dX8_cut_119 ?_
    refine sm_iload (pc := 122) (n := 4) dX8_cut_122 ?_
    refine sm_aaloadT (pc := 124) dX8_cut_124 ?_
    refine sm_cV (pc := 125) (ci := 8) (n := 3) (mc := 0) (ms := 0) rfl (zMet_str m_X8_addTimes) (cr_X8_287 (X := X_X8_cut) (fr := 2) (frc := 1) (pc := 125) (mc := 0) (ms := 0) rfl (by decide) dX8_cut_125) ?_
    exact hj128.use
  · skip
    refine sm_iconst (pc := 101) dX8_cut_101 zc_i_m1 ?_
    exact sm_ireturn (pc := 102) dX8_cut_102 rfl
noncomputable def lX8_cuta_45 {d : Nat} (P : zP d) (r45 : zK d) : zK d := (xild 4 (xald 0 (xgfR 24 6 (xgfI 23 1 (xcmpS tgeR rlGe rhS rlS rhLt (xald 0 (xgfR 24 3 (xpI 0 (xald 0 (xgfR 24 2 (xild 3 (xaaT (xpI 0 (xpI 11 (xcpy 2 72 (xpI 0 (xiret P)))))))))))) (xald 0 (xgfR 24 7 (xgfR 21 10 (xgfR 16 2 (xild 4 (xalQ 0 (xild 2 (xjoin (bX8_cuta_128 P r45) (fun j128 => (xcmpS teqR rlEq rhEq rlNe rhNe (xald 0 (xald 0 (xgfR 24 2 (xild 1 (xaaT (xild 4 (xpI 0 (xcV 24 4 0 0 (zstr f_X8_timesFactorial) (xlst 5 (xald 0 (xlld 5 (cX8_cuta_95 P j128)))))))))))) j128)))))))))))))))
set_option maxRecDepth 100000 in
set_option maxHeartbeats 4000000 in
theorem slX8_cuta_45 {d : Nat} [zGh] (P : zP d) (r45 : zK d) (hr45 : zSimJ 1 X_X8_cut 2 P 45 r45) : zSim X_X8_cut 2 P 45 (lX8_cuta_45 P r45) := by
  unfold lX8_cuta_45
  refine sm_iload (pc := 45) (n := 4) dX8_cut_45 ?_
  refine sm_aload_n (pc := 47) (n := 0) dX8_cut_47 rfl ?_
  refine gf_X8_40 (pc := 48) rfl dX8_cut_48 ?_
  refine gf_X8_74 (pc := 51) rfl dX8_cut_51 ?_
  refine sm_icmpS_ge (pc := 54) (tgt := 134) dX8_cut_54 (by decide) ?_ ?_
  · skip
    refine sm_aload_n (pc := 134) (n := 0) dX8_cut_134 rfl ?_
    refine gf_X8_26 (pc := 135) rfl dX8_cut_135 ?_
    refine sm_iconst (pc := 138) dX8_cut_138 zc_i_0 ?_
    refine sm_aload_n (pc := 139) (n := 0) dX8_cut_139 rfl ?_
    refine gf_X8_23 (pc := 140) rfl dX8_cut_140 ?_
    refine sm_iload_n (pc := 143) (n := 3) dX8_cut_143 rfl ?_
    refine sm_aaloadT (pc := 144) dX8_cut_144 ?_
    refine sm_iconst (pc := 145) dX8_cut_145 zc_i_0 ?_
    refine sm_bipush (pc := 146) dX8_cut_146 zc_b_11 ?_
    refine sm_copyJ (pc := 148) wd_771 wd_80 wd_79 wd_7 (by decide) dX8_cut_148 ?_
    refine sm_iconst (pc := 151) dX8_cut_151 zc_i_0 ?_
    exact sm_ireturn (pc := 152) dX8_cut_152 rfl
  · skip
    refine sm_aload_n (pc := 57) (n := 0) dX8_cut_57 rfl ?_
    refine gf_X8_47 (pc := 58) rfl dX8_cut_58 ?_
    refine gf_X8_152 (pc := 61) rfl dX8_cut_61 ?_
    refine gf_X8_161 (pc := 64) rfl dX8_cut_64 ?_
    refine sm_iload (pc := 67) (n := 4) dX8_cut_67 ?_
    refine sm_ialoadQ (pc := 69) dX8_cut_69 ?_
    refine sm_iload_n (pc := 70) (n := 2) dX8_cut_70 rfl ?_
    refine sm_joinJ (pc := 71) (pc' := 128) (j := 1) (fun G0 hG0 => @sbX8_cuta_128 d G0 P r45 (hr45.mv hG0 (by decide))) (fun j128 hj128 => ?_)
    refine sm_icmpS_eq (pc := 71) (tgt := 77) dX8_cut_71 (by decide) ?_ ?_
    · skip
      refine sm_aload_n (pc := 77) (n := 0) dX8_cut_77 rfl ?_
      refine sm_aload_n (pc := 78) (n := 0) dX8_cut_78 rfl ?_
      refine gf_X8_23 (pc := 79) rfl dX8_cut_79 ?_
      refine sm_iload_n (pc := 82) (n := 1) dX8_cut_82 rfl ?_
      refine sm_aaloadT (pc := 83) dX8_cut_83 ?_
      refine sm_iload (pc := 84) (n := 4) dX8_cut_84 ?_
      refine sm_iconst (pc := 86) dX8_cut_86 zc_i_0 ?_
      refine sm_cV (pc := 87) (ci := 8) (n := 4) (mc := 0) (ms := 0) rfl (zMet_str m_X8_timesFactorial) (cr_X8_256 (X := X_X8_cut) (fr := 2) (frc := 1) (pc := 87) (mc := 0) (ms := 0) rfl (by decide) dX8_cut_87) ?_
      refine sm_lstore (pc := 90) (n := 5) dX8_cut_90 ?_
      refine sm_aload_n (pc := 92) (n := 0) dX8_cut_92 rfl ?_
      refine sm_lload (pc := 93) (n := 5) dX8_cut_93 ?_
      exact scX8_cuta_95 P j128 hj128
    · skip
      refine sm_goto (pc := 74) (tgt := 128) dX8_cut_74 (by decide) ?_
      exact hj128.use
noncomputable def b_X8_cuta {d : Nat} (P : zP d) : zK d := (xild 1 (xcS 1 0 0 (zstr f_X8_isSlota) (xjoin (bX8_cuta_32 P) (fun j32 => (xif0S teqR rlEq rhEq rlNe rhNe j32 (xild 3 (xcS 1 0 0 (zstr f_X8_isSlota) (xif0S teqR rlEq rhEq rlNe rhNe j32 (xild 2 (xif0S tgeR rlGe rhS rlS rhLt (xild 2 (xald 0 (xgfR 24 7 (xgfR 21 10 (xgfI 16 3 (xcmpS tgeR rlGe rhS rlS rhLt j32 (xald 0 (xgfR 24 3 (xpL 0 (xcS 2 0 0 (zstr f_J7_fill_d0a16) (xpI 0 (xist 4 (xloop (fun r45 => (lX8_cuta_45 P r45)) 100000))))))))))))) j32))))))))))
set_option maxRecDepth 100000 in
set_option maxHeartbeats 4000000 in
theorem s_X8_cuta {d : Nat} [zGh] (P : zP d) : zSim X_X8_cut 2 P 0 (b_X8_cuta P) := by
  unfold b_X8_cuta
  refine sm_iload_n (pc := 0) (n := 1) dX8_cut_0 rfl ?_
  refine sm_cS (pc := 1) (n := 1) (mc := 0) (ms := 0) (zMet_str m_X8_isSlota) (cr_X8_88 (X := X_X8_cut) (fr := 2) (frc := 1) (pc := 1) (mc := 0) (ms := 0) rfl (by decide) dX8_cut_1) ?_
  refine sm_joinJ (pc := 4) (pc' := 32) (j := 1) (fun G0 hG0 => @sbX8_cuta_32 d G0 P) (fun j32 hj32 => ?_)
  refine sm_ifS_eq (pc := 4) (tgt := 32) dX8_cut_4 (by decide) ?_ ?_
  · skip
    exact hj32.use
  · skip
    refine sm_iload_n (pc := 7) (n := 3) dX8_cut_7 rfl ?_
    refine sm_cS (pc := 8) (n := 1) (mc := 0) (ms := 0) (zMet_str m_X8_isSlota) (cr_X8_88 (X := X_X8_cut) (fr := 2) (frc := 1) (pc := 8) (mc := 0) (ms := 0) rfl (by decide) dX8_cut_8) ?_
    refine sm_ifS_eq (pc := 11) (tgt := 32) dX8_cut_11 (by decide) ?_ ?_
    · skip
      exact hj32.use
    · skip
      refine sm_iload_n (pc := 14) (n := 2) dX8_cut_14 rfl ?_
      refine sm_ifS_lt (pc := 15) (tgt := 32) dX8_cut_15 (by decide) ?_ ?_
      · skip
        exact hj32.use
      · skip
        refine sm_iload_n (pc := 18) (n := 2) dX8_cut_18 rfl ?_
        refine sm_aload_n (pc := 19) (n := 0) dX8_cut_19 rfl ?_
        refine gf_X8_47 (pc := 20) rfl dX8_cut_20 ?_
        refine gf_X8_152 (pc := 23) rfl dX8_cut_23 ?_
        refine gf_X8_236 (pc := 26) rfl dX8_cut_26 ?_
        refine sm_icmpS_lt (pc := 29) (tgt := 34) dX8_cut_29 (by decide) ?_ ?_
        · skip
          refine sm_aload_n (pc := 34) (n := 0) dX8_cut_34 rfl ?_
          refine gf_X8_26 (pc := 35) rfl dX8_cut_35 ?_
          refine sm_lconst (pc := 38) dX8_cut_38 zc_l_0 ?_
          refine sm_cS (pc := 39) (n := 2) (mc := 0) (ms := 0) (zMet_str m_J7_fill_d0a16) (cr_X8_68 (X := X_X8_cut) (fr := 2) (frc := 1) (pc := 39) (mc := 0) (ms := 0) rfl (by decide) dX8_cut_39) ?_
          refine sm_iconst (pc := 42) dX8_cut_42 zc_i_0 ?_
          refine sm_istore (pc := 43) (n := 4) dX8_cut_43 ?_
          exact (sm_loopJ (j := 1) (fun G1 hG1 r45 hr45 => @slX8_cuta_45 d G1 P r45 hr45) _).use
        · skip
          exact hj32.use
noncomputable def f_X8_cuta {d : Nat} : List zV → zH d → zP d → Bool := zfn 7 b_X8_cuta
theorem m_X8_cuta {d : Nat} : zMet (d := d) X_X8_cut yX8_cut 2 f_X8_cuta := zmet_mk (X := X_X8_cut) (by decide) rfl rfl s_X8_cuta

noncomputable def bX8_looka_127 {d : Nat} (P : zP d) : zK d := (xpI 4294967295 (xiret P))
set_option maxRecDepth 100000 in
set_option maxHeartbeats 4000000 in
theorem sbX8_looka_127 {d : Nat} [zGh] (P : zP d) : zSim X_X8_look 3 P 127 (bX8_looka_127 P) := by
  unfold bX8_looka_127
  refine sm_iconst (pc := 127) dX8_look_127 zc_i_m1 ?_
  exact sm_ireturn (pc := 128) dX8_look_128 rfl
noncomputable def bX8_looka_52 {d : Nat} (P : zP d) : zK d := (xald 0 (xgfR 24 6 (xgfI 23 0 (xiret P))))
set_option maxRecDepth 100000 in
set_option maxHeartbeats 4000000 in
theorem sbX8_looka_52 {d : Nat} [zGh] (P : zP d) : zSim X_X8_look 3 P 52 (bX8_looka_52 P) := by
  unfold bX8_looka_52
  refine sm_aload_n (pc := 52) (n := 0) dX8_look_52 rfl ?_
  refine gf_X8_40 (pc := 53) rfl dX8_look_53 ?_
  refine gf_X8_176 (pc := 56) rfl dX8_look_56 ?_
  exact sm_ireturn (pc := 59) dX8_look_59 rfl
noncomputable def bX8_looka_60 {d : Nat} (P : zP d) : zK d := (xald 0 (xgfR 24 7 (xgfI 21 1 (xiret P))))
set_option maxRecDepth 100000 in
set_option maxHeartbeats 4000000 in
theorem sbX8_looka_60 {d : Nat} [zGh] (P : zP d) : zSim X_X8_look 3 P 60 (bX8_looka_60 P) := by
  unfold bX8_looka_60
  refine sm_aload_n (pc := 60) (n := 0) dX8_look_60 rfl ?_
  refine gf_X8_47 (pc := 61) rfl dX8_look_61 ?_
  refine gf_X8_179 (pc := 64) rfl dX8_look_64 ?_
  exact sm_ireturn (pc := 67) dX8_look_67 rfl
noncomputable def bX8_looka_68 {d : Nat} (P : zP d) : zK d := (xald 0 (xgfR 24 6 (xgfI 23 1 (xiret P))))
set_option maxRecDepth 100000 in
set_option maxHeartbeats 4000000 in
theorem sbX8_looka_68 {d : Nat} [zGh] (P : zP d) : zSim X_X8_look 3 P 68 (bX8_looka_68 P) := by
  unfold bX8_looka_68
  refine sm_aload_n (pc := 68) (n := 0) dX8_look_68 rfl ?_
  refine gf_X8_40 (pc := 69) rfl dX8_look_69 ?_
  refine gf_X8_74 (pc := 72) rfl dX8_look_72 ?_
  exact sm_ireturn (pc := 75) dX8_look_75 rfl
noncomputable def bX8_looka_76 {d : Nat} (P : zP d) : zK d := (xald 0 (xgfR 24 7 (xgfI 21 3 (xiret P))))
set_option maxRecDepth 100000 in
set_option maxHeartbeats 4000000 in
theorem sbX8_looka_76 {d : Nat} [zGh] (P : zP d) : zSim X_X8_look 3 P 76 (bX8_looka_76 P) := by
  unfold bX8_looka_76
  refine sm_aload_n (pc := 76) (n := 0) dX8_look_76 rfl ?_
  refine gf_X8_47 (pc := 77) rfl dX8_look_77 ?_
  refine gf_X8_291 (pc := 80) rfl dX8_look_80 ?_
  exact sm_ireturn (pc := 83) dX8_look_83 rfl
noncomputable def bX8_looka_84 {d : Nat} (P : zP d) : zK d := (xald 0 (xgfR 24 7 (xgfR 21 10 (xgfI 16 3 (xiret P)))))
set_option maxRecDepth 100000 in
set_option maxHeartbeats 4000000 in
theorem sbX8_looka_84 {d : Nat} [zGh] (P : zP d) : zSim X_X8_look 3 P 84 (bX8_looka_84 P) := by
  unfold bX8_looka_84
  refine sm_aload_n (pc := 84) (n := 0) dX8_look_84 rfl ?_
  refine gf_X8_47 (pc := 85) rfl dX8_look_85 ?_
  refine gf_X8_152 (pc := 88) rfl dX8_look_88 ?_
  refine gf_X8_236 (pc := 91) rfl dX8_look_91 ?_
  exact sm_ireturn (pc := 94) dX8_look_94 rfl
noncomputable def bX8_looka_95 {d : Nat} (P : zP d) : zK d := (xald 0 (xgfR 24 6 (xgfI 23 2 (xiret P))))
set_option maxRecDepth 100000 in
set_option maxHeartbeats 4000000 in
theorem sbX8_looka_95 {d : Nat} [zGh] (P : zP d) : zSim X_X8_look 3 P 95 (bX8_looka_95 P) := by
  unfold bX8_looka_95
  refine sm_aload_n (pc := 95) (n := 0) dX8_look_95 rfl ?_
  refine gf_X8_40 (pc := 96) rfl dX8_look_96 ?_
  refine gf_X8_266 (pc := 99) rfl dX8_look_99 ?_
  exact sm_ireturn (pc := 102) dX8_look_102 rfl
noncomputable def bX8_looka_103 {d : Nat} (P : zP d) : zK d := (xald 0 (xgfR 24 4 (xgfI 22 1 (xiret P))))
set_option maxRecDepth 100000 in
set_option maxHeartbeats 4000000 in
theorem sbX8_looka_103 {d : Nat} [zGh] (P : zP d) : zSim X_X8_look 3 P 103 (bX8_looka_103 P) := by
  unfold bX8_looka_103
  refine sm_aload_n (pc := 103) (n := 0) dX8_look_103 rfl ?_
  refine gf_X8_33 (pc := 104) rfl dX8_look_104 ?_
  refine gf_X8_85 (pc := 107) rfl dX8_look_107 ?_
  exact sm_ireturn (pc := 110) dX8_look_110 rfl
noncomputable def bX8_looka_111 {d : Nat} (P : zP d) : zK d := (xald 0 (xcV 24 1 0 0 (zstr f_X8_slotsInUse) (xiret P)))
set_option maxRecDepth 100000 in
set_option maxHeartbeats 4000000 in
theorem sbX8_looka_111 {d : Nat} [zGh] (P : zP d) : zSim X_X8_look 3 P 111 (bX8_looka_111 P) := by
  unfold bX8_looka_111
  refine sm_aload_n (pc := 111) (n := 0) dX8_look_111 rfl ?_
  refine sm_cV (pc := 112) (ci := 8) (n := 1) (mc := 0) (ms := 0) rfl (zMet_str m_X8_slotsInUse) (cr_X8_294 (X := X_X8_look) (fr := 3) (frc := 1) (pc := 112) (mc := 0) (ms := 0) rfl (by decide) dX8_look_112) ?_
  exact sm_ireturn (pc := 115) dX8_look_115 rfl
noncomputable def bX8_looka_116 {d : Nat} (P : zP d) : zK d := (xald 0 (xgfR 24 7 (xgfR 21 10 (xcV 16 1 0 0 (zstr f_X0_withoutDefect) (xiret P)))))
set_option maxRecDepth 100000 in
set_option maxHeartbeats 4000000 in
theorem sbX8_looka_116 {d : Nat} [zGh] (P : zP d) : zSim X_X8_look 3 P 116 (bX8_looka_116 P) := by
  unfold bX8_looka_116
  refine sm_aload_n (pc := 116) (n := 0) dX8_look_116 rfl ?_
  refine gf_X8_47 (pc := 117) rfl dX8_look_117 ?_
  refine gf_X8_152 (pc := 120) rfl dX8_look_120 ?_
  refine sm_cV (pc := 123) (ci := 0) (n := 1) (mc := 0) (ms := 0) rfl (zMet_str m_X0_withoutDefect) (cr_X8_298 (X := X_X8_look) (fr := 3) (frc := 2) (pc := 123) (mc := 0) (ms := 0) rfl (by decide) dX8_look_123) ?_
  exact sm_ireturn (pc := 126) dX8_look_126 rfl
noncomputable def b_X8_looka {d : Nat} (P : zP d) : zK d := (xild 1 (xtswR 8 [(bX8_looka_52 P), (bX8_looka_60 P), (bX8_looka_68 P), (bX8_looka_76 P), (bX8_looka_84 P), (bX8_looka_95 P), (bX8_looka_103 P), (bX8_looka_111 P), (bX8_looka_116 P)] (bX8_looka_127 P)))
set_option maxRecDepth 100000 in
set_option maxHeartbeats 4000000 in
theorem s_X8_looka {d : Nat} [zGh] (P : zP d) : zSim X_X8_look 3 P 0 (b_X8_looka P) := by
  unfold b_X8_looka
  refine sm_iload_n (pc := 0) (n := 1) dX8_look_0 rfl ?_
  exact sm_tswR (pc := 1) (n := 8) (tdf := 127) [52, 60, 68, 76, 84, 95, 103, 111, 116] rfl (by decide) dX8_look_1 rfl (by decide +kernel) (by decide) (sbX8_looka_127 P) ⟨sbX8_looka_52 P, sbX8_looka_60 P, sbX8_looka_68 P, sbX8_looka_76 P, sbX8_looka_84 P, sbX8_looka_95 P, sbX8_looka_103 P, sbX8_looka_111 P, sbX8_looka_116 P, trivial⟩
noncomputable def f_X8_looka {d : Nat} : List zV → zH d → zP d → Bool := zfn 2 b_X8_looka
theorem m_X8_looka {d : Nat} : zMet (d := d) X_X8_look yX8_look 3 f_X8_looka := zmet_mk (X := X_X8_look) (by decide) rfl rfl s_X8_looka
