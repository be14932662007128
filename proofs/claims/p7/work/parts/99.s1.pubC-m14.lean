section
/-! the class to be called with any numbers, by program -/
noncomputable def bX8_isPartitiona_20 {d : Nat} (P : zP d) : zK d := (xzret P)
set_option maxRecDepth 100000 in
set_option maxHeartbeats 4000000 in
theorem sbX8_isPartitiona_20 {d : Nat} [zGh] (P : zP d) : zSim X_X8_isPartition 1 P 20 (bX8_isPartitiona_20 P) := by
  unfold bX8_isPartitiona_20
  exact sm_zreturn (pc := 20) dX8_isPartition_20 rfl
noncomputable def bX8_isPartitiona_19 {d : Nat} (P : zP d) (j20 : zK d) : zK d := (xpI 0 j20)
set_option maxRecDepth 100000 in
set_option maxHeartbeats 4000000 in
theorem sbX8_isPartitiona_19 {d : Nat} [zGh] (P : zP d) (j20 : zK d) (hj20 : zSimJ 1 X_X8_isPartition 1 P 20 j20) : zSim X_X8_isPartition 1 P 19 (bX8_isPartitiona_19 P j20) := by
  unfold bX8_isPartitiona_19
  refine sm_iconst (pc := 19) dX8_isPartition_19 zc_i_0 ?_
  exact hj20.use
noncomputable def b_X8_isPartitiona {d : Nat} (P : zP d) : zK d := (xild 1 (xjoin (bX8_isPartitiona_20 P) (fun j20 => (xjoin (bX8_isPartitiona_19 P j20) (fun j19 => (xif0S tgeR rlGe rhS rlS rhLt (xild 1 (xald 0 (xgfR 24 6 (xgfI 23 1 (xcmpS tgeR rlGe rhS rlS rhLt j19 (xpI 1 j20)))))) j19))))))
set_option maxRecDepth 100000 in
set_option maxHeartbeats 4000000 in
theorem s_X8_isPartitiona {d : Nat} [zGh] (P : zP d) : zSim X_X8_isPartition 1 P 0 (b_X8_isPartitiona P) := by
  unfold b_X8_isPartitiona
  refine sm_iload_n (pc := 0) (n := 1) dX8_isPartition_0 rfl ?_
  refine sm_joinJ (pc := 1) (pc' := 20) (j := 1) (fun G0 hG0 => @sbX8_isPartitiona_20 d G0 P) (fun j20 hj20 => ?_)
  refine sm_joinJ (pc := 1) (pc' := 19) (j := 1) (fun G0 hG0 => @sbX8_isPartitiona_19 d G0 P j20 (hj20.mv hG0 (by decide))) (fun j19 hj19 => ?_)
  refine sm_ifS_lt (pc := 1) (tgt := 19) dX8_isPartition_1 (by decide) ?_ ?_
  · skip
    exact hj19.use
  · skip
    refine sm_iload_n (pc := 4) (n := 1) dX8_isPartition_4 rfl ?_
    refine sm_aload_n (pc := 5) (n := 0) dX8_isPartition_5 rfl ?_
    refine gf_X8_40 (pc := 6) rfl dX8_isPartition_6 ?_
    refine gf_X8_74 (pc := 9) rfl dX8_isPartition_9 ?_
    refine sm_icmpS_ge (pc := 12) (tgt := 19) dX8_isPartition_12 (by decide) ?_ ?_
    · skip
      exact hj19.use
    · skip
      refine sm_iconst (pc := 15) dX8_isPartition_15 zc_i_1 ?_
      refine sm_goto (pc := 16) (tgt := 20) dX8_isPartition_16 (by decide) ?_
      exact hj20.use
noncomputable def f_X8_isPartitiona {d : Nat} : List zV → zH d → zP d → Bool := zfn 2 b_X8_isPartitiona
theorem m_X8_isPartitiona {d : Nat} : zMet (d := d) X_X8_isPartition yX8_isPartition 1 f_X8_isPartitiona := zmet_mk (X := X_X8_isPartition) (by decide) rfl rfl s_X8_isPartitiona

noncomputable def bX8_isSlota_15 {d : Nat} (P : zP d) : zK d := (xzret P)
set_option maxRecDepth 100000 in
set_option maxHeartbeats 4000000 in
theorem sbX8_isSlota_15 {d : Nat} [zGh] (P : zP d) : zSim X_X8_isSlot 1 P 15 (bX8_isSlota_15 P) := by
  unfold bX8_isSlota_15
  exact sm_zreturn (pc := 15) dX8_isSlot_15 rfl
noncomputable def bX8_isSlota_14 {d : Nat} (P : zP d) (j15 : zK d) : zK d := (xpI 0 j15)
set_option maxRecDepth 100000 in
set_option maxHeartbeats 4000000 in
theorem sbX8_isSlota_14 {d : Nat} [zGh] (P : zP d) (j15 : zK d) (hj15 : zSimJ 1 X_X8_isSlot 1 P 15 j15) : zSim X_X8_isSlot 1 P 14 (bX8_isSlota_14 P j15) := by
  unfold bX8_isSlota_14
  refine sm_iconst (pc := 14) dX8_isSlot_14 zc_i_0 ?_
  exact hj15.use
noncomputable def b_X8_isSlota {d : Nat} (P : zP d) : zK d := (xild 0 (xjoin (bX8_isSlota_15 P) (fun j15 => (xjoin (bX8_isSlota_14 P j15) (fun j14 => (xif0S tgeR rlGe rhS rlS rhLt (xild 0 (xpI 6 (xcmpS tgeR rlGe rhS rlS rhLt j14 (xpI 1 j15)))) j14))))))
set_option maxRecDepth 100000 in
set_option maxHeartbeats 4000000 in
theorem s_X8_isSlota {d : Nat} [zGh] (P : zP d) : zSim X_X8_isSlot 1 P 0 (b_X8_isSlota P) := by
  unfold b_X8_isSlota
  refine sm_iload_n (pc := 0) (n := 0) dX8_isSlot_0 rfl ?_
  refine sm_joinJ (pc := 1) (pc' := 15) (j := 1) (fun G0 hG0 => @sbX8_isSlota_15 d G0 P) (fun j15 hj15 => ?_)
  refine sm_joinJ (pc := 1) (pc' := 14) (j := 1) (fun G0 hG0 => @sbX8_isSlota_14 d G0 P j15 (hj15.mv hG0 (by decide))) (fun j14 hj14 => ?_)
  refine sm_ifS_lt (pc := 1) (tgt := 14) dX8_isSlot_1 (by decide) ?_ ?_
  · skip
    exact hj14.use
  · skip
    refine sm_iload_n (pc := 4) (n := 0) dX8_isSlot_4 rfl ?_
    refine sm_bipush (pc := 5) dX8_isSlot_5 zc_b_6 ?_
    refine sm_icmpS_ge (pc := 7) (tgt := 14) dX8_isSlot_7 (by decide) ?_ ?_
    · skip
      exact hj14.use
    · skip
      refine sm_iconst (pc := 10) dX8_isSlot_10 zc_i_1 ?_
      refine sm_goto (pc := 11) (tgt := 15) dX8_isSlot_11 (by decide) ?_
      exact hj15.use
noncomputable def f_X8_isSlota {d : Nat} : List zV → zH d → zP d → Bool := zfn 1 b_X8_isSlota
theorem m_X8_isSlota {d : Nat} : zMet (d := d) X_X8_isSlot yX8_isSlot 1 f_X8_isSlota := zmet_mk (X := X_X8_isSlot) (by decide) rfl rfl s_X8_isSlota

noncomputable def bX8_isRegularPartitiona_24 {d : Nat} (P : zP d) : zK d := (xzret P)
set_option maxRecDepth 100000 in
set_option maxHeartbeats 4000000 in
theorem sbX8_isRegularPartitiona_24 {d : Nat} [zGh] (P : zP d) : zSim X_X8_isRegularPartition 2 P 24 (bX8_isRegularPartitiona_24 P) := by
  unfold bX8_isRegularPartitiona_24
  exact sm_zreturn (pc := 24) dX8_isRegularPartition_24 rfl
noncomputable def bX8_isRegularPartitiona_23 {d : Nat} (P : zP d) (j24 : zK d) : zK d := (xpI 0 j24)
set_option maxRecDepth 100000 in
set_option maxHeartbeats 4000000 in
theorem sbX8_isRegularPartitiona_23 {d : Nat} [zGh] (P : zP d) (j24 : zK d) (hj24 : zSimJ 1 X_X8_isRegularPartition 2 P 24 j24) : zSim X_X8_isRegularPartition 2 P 23 (bX8_isRegularPartitiona_23 P j24) := by
  unfold bX8_isRegularPartitiona_23
  refine sm_iconst (pc := 23) dX8_isRegularPartition_23 zc_i_0 ?_
  exact hj24.use
noncomputable def b_X8_isRegularPartitiona {d : Nat} (P : zP d) : zK d := (xald 0 (xild 1 (xcV 24 2 0 0 (zstr f_X8_isPartitiona) (xjoin (bX8_isRegularPartitiona_24 P) (fun j24 => (xjoin (bX8_isRegularPartitiona_23 P j24) (fun j23 => (xif0S teqR rlEq rhEq rlNe rhNe j23 (xald 0 (xgfR 24 7 (xild 1 (xcV 21 2 0 0 (zstr f_X5_isRegular) (xif0S teqR rlEq rhEq rlNe rhNe j23 (xpI 1 j24))))))))))))))
set_option maxRecDepth 100000 in
set_option maxHeartbeats 4000000 in
theorem s_X8_isRegularPartitiona {d : Nat} [zGh] (P : zP d) : zSim X_X8_isRegularPartition 2 P 0 (b_X8_isRegularPartitiona P) := by
  unfold b_X8_isRegularPartitiona
  refine sm_aload_n (pc := 0) (n := 0) dX8_isRegularPartition_0 rfl ?_
  refine sm_iload_n (pc := 1) (n := 1) dX8_isRegularPartition_1 rfl ?_
  refine sm_cV (pc := 2) (ci := 8) (n := 2) (mc := 0) (ms := 0) rfl (zMet_str m_X8_isPartitiona) (cr_X8_126 (X := X_X8_isRegularPartition) (fr := 2) (frc := 1) (pc := 2) (mc := 0) (ms := 0) rfl (by decide) dX8_isRegularPartition_2) ?_
  refine sm_joinJ (pc := 5) (pc' := 24) (j := 1) (fun G0 hG0 => @sbX8_isRegularPartitiona_24 d G0 P) (fun j24 hj24 => ?_)
  refine sm_joinJ (pc := 5) (pc' := 23) (j := 1) (fun G0 hG0 => @sbX8_isRegularPartitiona_23 d G0 P j24 (hj24.mv hG0 (by decide))) (fun j23 hj23 => ?_)
  refine sm_ifS_eq (pc := 5) (tgt := 23) dX8_isRegularPartition_5 (by decide) ?_ ?_
  · skip
    exact hj23.use
  · skip
    refine sm_aload_n (pc := 8) (n := 0) dX8_isRegularPartition_8 rfl ?_
    refine gf_X8_47 (pc := 9) rfl dX8_isRegularPartition_9 ?_
    refine sm_iload_n (pc := 12) (n := 1) dX8_isRegularPartition_12 rfl ?_
    refine sm_cV (pc := 13) (ci := 5) (n := 2) (mc := 0) (ms := 0) rfl (zMet_str m_X5_isRegular) (cr_X8_145 (X := X_X8_isRegularPartition) (fr := 2) (frc := 1) (pc := 13) (mc := 0) (ms := 0) rfl (by decide) dX8_isRegularPartition_13) ?_
    refine sm_ifS_eq (pc := 16) (tgt := 23) dX8_isRegularPartition_16 (by decide) ?_ ?_
    · skip
      exact hj23.use
    · skip
      refine sm_iconst (pc := 19) dX8_isRegularPartition_19 zc_i_1 ?_
      refine sm_goto (pc := 20) (tgt := 24) dX8_isRegularPartition_20 (by decide) ?_
      exact hj24.use
noncomputable def f_X8_isRegularPartitiona {d : Nat} : List zV → zH d → zP d → Bool := zfn 2 b_X8_isRegularPartitiona
theorem m_X8_isRegularPartitiona {d : Nat} : zMet (d := d) X_X8_isRegularPartition yX8_isRegularPartition 2 f_X8_isRegularPartitiona := zmet_mk (X := X_X8_isRegularPartition) (by decide) rfl rfl s_X8_isRegularPartitiona

noncomputable def bX8_partAta_13 {d : Nat} (P : zP d) : zK d := (xiret P)
set_option maxRecDepth 100000 in
set_option maxHeartbeats 4000000 in
theorem sbX8_partAta_13 {d : Nat} [zGh] (P : zP d) : zSim X_X8_partAt 1 P 13 (bX8_partAta_13 P) := by
  unfold bX8_partAta_13
  exact sm_ireturn (pc := 13) dX8_partAt_13 rfl
noncomputable def b_X8_partAta {d : Nat} (P : zP d) : zK d := (xild 1 (xald 0 (xlen (xjoin (bX8_partAta_13 P) (fun j13 => (xcmpS tgeR rlGe rhS rlS rhLt (xpI 0 j13) (xald 0 (xild 1 (xalQ 0 j13)))))))))
set_option maxRecDepth 100000 in
set_option maxHeartbeats 4000000 in
theorem s_X8_partAta {d : Nat} [zGh] (P : zP d) : zSim X_X8_partAt 1 P 0 (b_X8_partAta P) := by
  unfold b_X8_partAta
  refine sm_iload_n (pc := 0) (n := 1) dX8_partAt_0 rfl ?_
  refine sm_aload_n (pc := 1) (n := 0) dX8_partAt_1 rfl ?_
  refine sm_arraylength (pc := 2) dX8_partAt_2 ?_
  refine sm_joinJ (pc := 3) (pc' := 13) (j := 1) (fun G0 hG0 => @sbX8_partAta_13 d G0 P) (fun j13 hj13 => ?_)
  refine sm_icmpS_ge (pc := 3) (tgt := 12) dX8_partAt_3 (by decide) ?_ ?_
  · skip
    refine sm_iconst (pc := 12) dX8_partAt_12 zc_i_0 ?_
    exact hj13.use
  · skip
    refine sm_aload_n (pc := 6) (n := 0) dX8_partAt_6 rfl ?_
    refine sm_iload_n (pc := 7) (n := 1) dX8_partAt_7 rfl ?_
    refine sm_ialoadQ (pc := 8) dX8_partAt_8 ?_
    refine sm_goto (pc := 9) (tgt := 13) dX8_partAt_9 (by decide) ?_
    exact hj13.use
noncomputable def f_X8_partAta {d : Nat} : List zV → zH d → zP d → Bool := zfn 2 b_X8_partAta
theorem m_X8_partAta {d : Nat} : zMet (d := d) X_X8_partAt yX8_partAt 1 f_X8_partAta := zmet_mk (X := X_X8_partAt) (by decide) rfl rfl s_X8_partAta

noncomputable def bX4_hasCella_31 {d : Nat} (P : zP d) : zK d := (xzret P)
set_option maxRecDepth 100000 in
set_option maxHeartbeats 4000000 in
theorem sbX4_hasCella_31 {d : Nat} [zGh] (P : zP d) : zSim X_X4_hasCell 1 P 31 (bX4_hasCella_31 P) := by
  unfold bX4_hasCella_31
  exact sm_zreturn (pc := 31) dX4_hasCell_31 rfl
noncomputable def bX4_hasCella_30 {d : Nat} (P : zP d) (j31 : zK d) : zK d := (xpI 0 j31)
set_option maxRecDepth 100000 in
set_option maxHeartbeats 4000000 in
theorem sbX4_hasCella_30 {d : Nat} [zGh] (P : zP d) (j31 : zK d) (hj31 : zSimJ 1 X_X4_hasCell 1 P 31 j31) : zSim X_X4_hasCell 1 P 30 (bX4_hasCella_30 P j31) := by
  unfold bX4_hasCella_30
  refine sm_iconst (pc := 30) dX4_hasCell_30 zc_i_0 ?_
  exact hj31.use
noncomputable def b_X4_hasCella {d : Nat} (P : zP d) : zK d := (xild 1 (xjoin (bX4_hasCella_31 P) (fun j31 => (xjoin (bX4_hasCella_30 P j31) (fun j30 => (xif0S tgeR rlGe rhS rlS rhLt (xild 1 (xald 0 (xgfI 20 1 (xcmpS tgeR rlGe rhS rlS rhLt j30 (xild 2 (xif0S tgeR rlGe rhS rlS rhLt (xild 2 (xald 0 (xgfR 20 2 (xild 1 (xalQ 0 (xcmpS tgeR rlGe rhS rlS rhLt j30 (xpI 1 j31))))))) j30)))))) j30))))))
set_option maxRecDepth 100000 in
set_option maxHeartbeats 4000000 in
theorem s_X4_hasCella {d : Nat} [zGh] (P : zP d) : zSim X_X4_hasCell 1 P 0 (b_X4_hasCella P) := by
  unfold b_X4_hasCella
  refine sm_iload_n (pc := 0) (n := 1) dX4_hasCell_0 rfl ?_
  refine sm_joinJ (pc := 1) (pc' := 31) (j := 1) (fun G0 hG0 => @sbX4_hasCella_31 d G0 P) (fun j31 hj31 => ?_)
  refine sm_joinJ (pc := 1) (pc' := 30) (j := 1) (fun G0 hG0 => @sbX4_hasCella_30 d G0 P j31 (hj31.mv hG0 (by decide))) (fun j30 hj30 => ?_)
  refine sm_ifS_lt (pc := 1) (tgt := 30) dX4_hasCell_1 (by decide) ?_ ?_
  · skip
    exact hj30.use
  · skip
    refine sm_iload_n (pc := 4) (n := 1) dX4_hasCell_4 rfl ?_
    refine sm_aload_n (pc := 5) (n := 0) dX4_hasCell_5 rfl ?_
    refine gf_X4_13 (pc := 6) rfl dX4_hasCell_6 ?_
    refine sm_icmpS_ge (pc := 9) (tgt := 30) dX4_hasCell_9 (by decide) ?_ ?_
    · skip
      exact hj30.use
    · skip
      refine sm_iload_n (pc := 12) (n := 2) dX4_hasCell_12 rfl ?_
      refine sm_ifS_lt (pc := 13) (tgt := 30) dX4_hasCell_13 (by decide) ?_ ?_
      · skip
        exact hj30.use
      · skip
        refine sm_iload_n (pc := 16) (n := 2) dX4_hasCell_16 rfl ?_
        refine sm_aload_n (pc := 17) (n := 0) dX4_hasCell_17 rfl ?_
        refine gf_X4_22 (pc := 18) rfl dX4_hasCell_18 ?_
        refine sm_iload_n (pc := 21) (n := 1) dX4_hasCell_21 rfl ?_
        refine sm_ialoadQ (pc := 22) dX4_hasCell_22 ?_
        refine sm_icmpS_ge (pc := 23) (tgt := 30) dX4_hasCell_23 (by decide) ?_ ?_
        · skip
          exact hj30.use
        · skip
          refine sm_iconst (pc := 26) dX4_hasCell_26 zc_i_1 ?_
          refine sm_goto (pc := 27) (tgt := 31) dX4_hasCell_27 (by decide) ?_
          exact hj31.use
noncomputable def f_X4_hasCella {d : Nat} : List zV → zH d → zP d → Bool := zfn 3 b_X4_hasCella
theorem m_X4_hasCella {d : Nat} : zMet (d := d) X_X4_hasCell yX4_hasCell 1 f_X4_hasCella := zmet_mk (X := X_X4_hasCell) (by decide) rfl rfl s_X4_hasCella

noncomputable def bX6_puta_49 {d : Nat} (P : zP d) : zK d := (xvret P)
set_option maxRecDepth 100000 in
set_option maxHeartbeats 4000000 in
theorem sbX6_puta_49 {d : Nat} [zGh] (P : zP d) : zSim X_X6_put 1 P 49 (bX6_puta_49 P) := by
  unfold bX6_puta_49
  exact sm_vreturn (pc := 49) dX6_put_49 rfl
noncomputable def lX6_puta_3 {d : Nat} (P : zP d) (r3 : zK d) : zK d := (xild 2 (xjoin (bX6_puta_49 P) (fun j49 => (xif0S tgeR rlGe rhS rlS rhLt (xald 0 (xgfI 22 1 (xpI 200 (xcmpS tgeR rlGe rhS rlS rhLt j49 (xald 0 (xgfR 22 0 (xald 0 (xgfI 22 1 (xild 1 (xild 2 (xbin zshr (xpI 255 (xbin zandR (xasQ 0 (fun v => v) (xald 0 (xdup (xgfI 22 1 (xpI 1 (xbin zaddR (xpfI 22 1 (xincR 2 4294967288 r3))))))))))))))))))))) j49))))
set_option maxRecDepth 100000 in
set_option maxHeartbeats 4000000 in
theorem slX6_puta_3 {d : Nat} [zGh] (P : zP d) (r3 : zK d) (hr3 : zSimJ 1 X_X6_put 1 P 3 r3) : zSim X_X6_put 1 P 3 (lX6_puta_3 P r3) := by
  unfold lX6_puta_3
  refine sm_iload_n (pc := 3) (n := 2) dX6_put_3 rfl ?_
  refine sm_joinJ (pc := 4) (pc' := 49) (j := 1) (fun G0 hG0 => @sbX6_puta_49 d G0 P) (fun j49 hj49 => ?_)
  refine sm_ifS_lt (pc := 4) (tgt := 49) dX6_put_4 (by decide) ?_ ?_
  · skip
    exact hj49.use
  · skip
    refine sm_aload_n (pc := 7) (n := 0) dX6_put_7 rfl ?_
    refine gf_X6_13 (pc := 8) rfl dX6_put_8 ?_
    refine sm_sipush (pc := 11) dX6_put_11 zc_s_200 ?_
    refine sm_icmpS_ge (pc := 14) (tgt := 49) dX6_put_14 (by decide) ?_ ?_
    · skip
      exact hj49.use
    · skip
      refine sm_aload_n (pc := 17) (n := 0) dX6_put_17 rfl ?_
      refine gf_X6_9 (pc := 18) rfl dX6_put_18 ?_
      refine sm_aload_n (pc := 21) (n := 0) dX6_put_21 rfl ?_
      refine gf_X6_13 (pc := 22) rfl dX6_put_22 ?_
      refine sm_iload_n (pc := 25) (n := 1) dX6_put_25 rfl ?_
      refine sm_iload_n (pc := 26) (n := 2) dX6_put_26 rfl ?_
      refine sm_ishr (pc := 27) dX6_put_27 ?_
      refine sm_sipush (pc := 28) dX6_put_28 zc_s_255 ?_
      refine sm_iandR (pc := 31) dX6_put_31 ?_
      refine sm_iastoreQ (pc := 32) dX6_put_32 ?_
      refine sm_aload_n (pc := 33) (n := 0) dX6_put_33 rfl ?_
      refine sm_dup (pc := 34) dX6_put_34 ?_
      refine gf_X6_13 (pc := 35) rfl dX6_put_35 ?_
      refine sm_iconst (pc := 38) dX6_put_38 zc_i_1 ?_
      refine sm_iaddR (pc := 39) dX6_put_39 ?_
      refine pf_X6_13 (pc := 40) rfl dX6_put_40 ?_
      refine sm_iincR (pc := 43) (n := 2) dX6_put_43 zc_i_m8 ?_
      refine sm_goto (pc := 46) (tgt := 3) dX6_put_46 (by decide) ?_
      exact hr3.use
noncomputable def b_X6_puta {d : Nat} (P : zP d) : zK d := (xpI 24 (xist 2 (xloop (fun r3 => (lX6_puta_3 P r3)) 100000)))
set_option maxRecDepth 100000 in
set_option maxHeartbeats 4000000 in
theorem s_X6_puta {d : Nat} [zGh] (P : zP d) : zSim X_X6_put 1 P 0 (b_X6_puta P) := by
  unfold b_X6_puta
  refine sm_bipush (pc := 0) dX6_put_0 zc_b_24 ?_
  refine sm_istore_n (pc := 2) (n := 2) dX6_put_2 rfl ?_
  exact (sm_loopJ (j := 1) (fun G1 hG1 r3 hr3 => @slX6_puta_3 d G1 P r3 hr3) _).use
noncomputable def f_X6_puta {d : Nat} : List zV → zH d → zP d → Bool := zfn 3 b_X6_puta
theorem m_X6_puta {d : Nat} : zMet (d := d) X_X6_put yX6_put 1 f_X6_puta := zmet_mk (X := X_X6_put) (by decide) rfl rfl s_X6_puta

noncomputable def cX8_feeda_53 {d : Nat} (P : zP d) : zK d := (xcV 22 2 0 0 (zstr f_X6_puta) (xald 0 (xgfR 24 4 (xgfI 22 1 (xiret P)))))
set_option maxRecDepth 100000 in
set_option maxHeartbeats 4000000 in
theorem scX8_feeda_53 {d : Nat} [zGh] (P : zP d) : zSim X_X8_feed 2 P 53 (cX8_feeda_53 P) := by
  unfold cX8_feeda_53
  refine sm_cV (pc := 53) (ci := 6) (n := 2) (mc := 0) (ms := 0) rfl (zMet_str m_X6_puta) (cr_X8_82 (X := X_X8_feed) (fr := 2) (frc := 1) (pc := 53) (mc := 0) (ms := 0) rfl (by decide) dX8_feed_53) ?_
  refine sm_aload_n (pc := 56) (n := 0) dX8_feed_56 rfl ?_
  refine gf_X8_33 (pc := 57) rfl dX8_feed_57 ?_
  refine gf_X8_85 (pc := 60) rfl dX8_feed_60 ?_
  exact sm_ireturn (pc := 63) dX8_feed_63 rfl
noncomputable def b_X8_feeda {d : Nat} (P : zP d) : zK d := (xald 0 (xgfR 24 4 (xpI 20 (xcV 22 2 0 0 (zstr f_X6_hasRoom) (xif0S teqR rlEq rhEq rlNe rhNe (xpI 4294967295 (xiret P)) (xald 0 (xgfR 24 4 (xild 1 (xcV 22 2 0 0 (zstr f_X6_puta) (xald 0 (xgfR 24 4 (xild 2 (xcV 22 2 0 0 (zstr f_X6_puta) (xald 0 (xgfR 24 4 (xild 3 (xcV 22 2 0 0 (zstr f_X6_puta) (xald 0 (xgfR 24 4 (xild 4 (xcV 22 2 0 0 (zstr f_X6_puta) (xald 0 (xgfR 24 4 (xild 5 (cX8_feeda_53 P)))))))))))))))))))))))))
set_option maxRecDepth 100000 in
set_option maxHeartbeats 4000000 in
theorem s_X8_feeda {d : Nat} [zGh] (P : zP d) : zSim X_X8_feed 2 P 0 (b_X8_feeda P) := by
  unfold b_X8_feeda
  refine sm_aload_n (pc := 0) (n := 0) dX8_feed_0 rfl ?_
  refine gf_X8_33 (pc := 1) rfl dX8_feed_1 ?_
  refine sm_bipush (pc := 4) dX8_feed_4 zc_b_20 ?_
  refine sm_cV (pc := 6) (ci := 6) (n := 2) (mc := 0) (ms := 0) rfl (zMet_str m_X6_hasRoom) (cr_X8_78 (X := X_X8_feed) (fr := 2) (frc := 1) (pc := 6) (mc := 0) (ms := 0) rfl (by decide) dX8_feed_6) ?_
  refine sm_ifS_ne (pc := 9) (tgt := 14) dX8_feed_9 (by decide) ?_ ?_
  · skip
    refine sm_aload_n (pc := 14) (n := 0) dX8_feed_14 rfl ?_
    refine gf_X8_33 (pc := 15) rfl dX8_feed_15 ?_
    refine sm_iload_n (pc := 18) (n := 1) dX8_feed_18 rfl ?_
    refine sm_cV (pc := 19) (ci := 6) (n := 2) (mc := 0) (ms := 0) rfl (zMet_str m_X6_puta) (cr_X8_82 (X := X_X8_feed) (fr := 2) (frc := 1) (pc := 19) (mc := 0) (ms := 0) rfl (by decide) dX8_feed_19) ?_
    refine sm_aload_n (pc := 22) (n := 0) dX8_feed_22 rfl ?_
    refine gf_X8_33 (pc := 23) rfl dX8_feed_23 ?_
    refine sm_iload_n (pc := 26) (n := 2) dX8_feed_26 rfl ?_
    refine sm_cV (pc := 27) (ci := 6) (n := 2) (mc := 0) (ms := 0) rfl (zMet_str m_X6_puta) (cr_X8_82 (X := X_X8_feed) (fr := 2) (frc := 1) (pc := 27) (mc := 0) (ms := 0) rfl (by decide) dX8_feed_27) ?_
    refine sm_aload_n (pc := 30) (n := 0) dX8_feed_30 rfl ?_
    refine gf_X8_33 (pc := 31) rfl dX8_feed_31 ?_
    refine sm_iload_n (pc := 34) (n := 3) dX8_feed_34 rfl ?_
    refine sm_cV (pc := 35) (ci := 6) (n := 2) (mc := 0) (ms := 0) rfl (zMet_str m_X6_puta) (cr_X8_82 (X := X_X8_feed) (fr := 2) (frc := 1) (pc := 35) (mc := 0) (ms := 0) rfl (by decide) dX8_feed_35) ?_
    refine sm_aload_n (pc := 38) (n := 0) dX8_feed_38 rfl ?_
    refine gf_X8_33 (pc := 39) rfl dX8_feed_39 ?_
    refine sm_iload (pc := 42) (n := 4) dX8_feed_42 ?_
    refine sm_cV (pc := 44) (ci := 6) (n := 2) (mc := 0) (ms := 0) rfl (zMet_str m_X6_puta) (cr_X8_82 (X := X_X8_feed) (fr := 2) (frc := 1) (pc := 44) (mc := 0) (ms := 0) rfl (by decide) dX8_feed_44) ?_
    refine sm_aload_n (pc := 47) (n := 0) dX8_feed_47 rfl ?_
    refine gf_X8_33 (pc := 48) rfl dX8_feed_48 ?_
    refine sm_iload (pc := 51) (n := 5) dX8_feed_51 ?_
    exact scX8_feeda_53 P
  · skip
    refine sm_iconst (pc := 12) dX8_feed_12 zc_i_m1 ?_
    exact sm_ireturn (pc := 13) dX8_feed_13 rfl
noncomputable def f_X8_feeda {d : Nat} : List zV → zH d → zP d → Bool := zfn 6 b_X8_feeda
theorem m_X8_feeda {d : Nat} : zMet (d := d) X_X8_feed yX8_feed 2 f_X8_feeda := zmet_mk (X := X_X8_feed) (by decide) rfl rfl s_X8_feeda

noncomputable def bX8_enda_15 {d : Nat} (P : zP d) : zK d := (xpI 0 (xzret P))
set_option maxRecDepth 100000 in
set_option maxHeartbeats 4000000 in
theorem sbX8_enda_15 {d : Nat} [zGh] (P : zP d) : zSim X_X8_end 1 P 15 (bX8_enda_15 P) := by
  unfold bX8_enda_15
  refine sm_iconst (pc := 15) dX8_end_15 zc_i_0 ?_
  exact sm_zreturn (pc := 16) dX8_end_16 rfl
noncomputable def b_X8_enda {d : Nat} (P : zP d) : zK d := (xild 1 (xjoin (bX8_enda_15 P) (fun j15 => (xif0S tgeR rlGe rhS rlS rhLt (xild 1 (xald 0 (xgfR 24 4 (xgfI 22 1 (xcmpS tleR rlS rhLe rlGt rhS (xald 0 (xgfR 24 4 (xild 1 (xpfI 22 1 (xpI 1 (xzret P)))))) j15))))) j15))))
set_option maxRecDepth 100000 in
set_option maxHeartbeats 4000000 in
theorem s_X8_enda {d : Nat} [zGh] (P : zP d) : zSim X_X8_end 1 P 0 (b_X8_enda P) := by
  unfold b_X8_enda
  refine sm_iload_n (pc := 0) (n := 1) dX8_end_0 rfl ?_
  refine sm_joinJ (pc := 1) (pc' := 15) (j := 1) (fun G0 hG0 => @sbX8_enda_15 d G0 P) (fun j15 hj15 => ?_)
  refine sm_ifS_lt (pc := 1) (tgt := 15) dX8_end_1 (by decide) ?_ ?_
  · skip
    exact hj15.use
  · skip
    refine sm_iload_n (pc := 4) (n := 1) dX8_end_4 rfl ?_
    refine sm_aload_n (pc := 5) (n := 0) dX8_end_5 rfl ?_
    refine gf_X8_33 (pc := 6) rfl dX8_end_6 ?_
    refine gf_X8_85 (pc := 9) rfl dX8_end_9 ?_
    refine sm_icmpS_le (pc := 12) (tgt := 17) dX8_end_12 (by decide) ?_ ?_
    · skip
      refine sm_aload_n (pc := 17) (n := 0) dX8_end_17 rfl ?_
      refine gf_X8_33 (pc := 18) rfl dX8_end_18 ?_
      refine sm_iload_n (pc := 21) (n := 1) dX8_end_21 rfl ?_
      refine pf_X8_85 (pc := 22) rfl dX8_end_22 ?_
      refine sm_iconst (pc := 25) dX8_end_25 zc_i_1 ?_
      exact sm_zreturn (pc := 26) dX8_end_26 rfl
    · skip
      exact hj15.use
noncomputable def f_X8_enda {d : Nat} : List zV → zH d → zP d → Bool := zfn 2 b_X8_enda
theorem m_X8_enda {d : Nat} : zMet (d := d) X_X8_end yX8_end 1 f_X8_enda := zmet_mk (X := X_X8_end) (by decide) rfl rfl s_X8_enda

noncomputable def bX8_texta_62 {d : Nat} (P : zP d) : zK d := (xald 0 (xgfR 24 4 (xpI 0 (xpfI 22 1 (xild 2 (xiret P))))))
set_option maxRecDepth 100000 in
set_option maxHeartbeats 4000000 in
theorem sbX8_texta_62 {d : Nat} [zGh] (P : zP d) : zSim X_X8_text 30 P 62 (bX8_texta_62 P) := by
  unfold bX8_texta_62
  refine sm_aload_n (pc := 62) (n := 0) dX8_text_62 rfl ?_
  refine gf_X8_33 (pc := 63) rfl dX8_text_63 ?_
  refine sm_iconst (pc := 66) dX8_text_66 zc_i_0 ?_
  refine pf_X8_85 (pc := 67) rfl dX8_text_67 ?_
  refine sm_iload_n (pc := 70) (n := 2) dX8_text_70 rfl ?_
  exact sm_ireturn (pc := 71) dX8_text_71 rfl
noncomputable def cX8_texta_57 {d : Nat} (P : zP d) (j62 : zK d) : zK d := j62
set_option maxRecDepth 100000 in
set_option maxHeartbeats 4000000 in
theorem scX8_texta_57 {d : Nat} [zGh] (P : zP d) (j62 : zK d) (hj62 : zSimJ 1 X_X8_text 30 P 62 j62) : zSim X_X8_text 30 P 57 (cX8_texta_57 P j62) := by
  unfold cX8_texta_57
  refine sm_goto (pc := 57) (tgt := 62) dX8_text_57 (by decide) ?_
  exact hj62.use
noncomputable def b_X8_texta {d : Nat} (P : zP d) : zK d := (xpI 4294967294 (xist 2 (xild 1 (xcS 1 0 0 (zstr f_X8_isSlota) (xjoin (bX8_texta_62 P) (fun j62 => (xif0S teqR rlEq rhEq rlNe rhNe (xald 0 (xgfR 24 5 (xgfR 18 0 (xcV 17 1 0 0 (zstr f_X1_clear) j62)))) (xald 0 (xgfR 24 5 (xcV 18 1 0 0 (zstr f_X2_read) (xif0S teqR rlEq rhEq rlNe rhNe (xpI 4294967295 (xist 2 j62)) (xald 0 (xgfR 24 5 (xgfR 18 1 (xpI 0 (xaaT (xpI 0 (xald 0 (xgfR 24 2 (xild 1 (xaaT (xpI 0 (xpI 11 (xcpy 2 72 (xpI 0 (xist 2 (cX8_texta_57 P j62)))))))))))))))))))))))))))
set_option maxRecDepth 100000 in
set_option maxHeartbeats 4000000 in
theorem s_X8_texta {d : Nat} [zGh] (P : zP d) : zSim X_X8_text 30 P 0 (b_X8_texta P) := by
  unfold b_X8_texta
  refine sm_bipush (pc := 0) dX8_text_0 zc_b_m2 ?_
  refine sm_istore_n (pc := 2) (n := 2) dX8_text_2 rfl ?_
  refine sm_iload_n (pc := 3) (n := 1) dX8_text_3 rfl ?_
  refine sm_cS (pc := 4) (n := 1) (mc := 0) (ms := 0) (zMet_str m_X8_isSlota) (cr_X8_88 (X := X_X8_text) (fr := 30) (frc := 1) (pc := 4) (mc := 0) (ms := 0) rfl (by decide) dX8_text_4) ?_
  refine sm_joinJ (pc := 7) (pc' := 62) (j := 1) (fun G0 hG0 => @sbX8_texta_62 d G0 P) (fun j62 hj62 => ?_)
  refine sm_ifS_ne (pc := 7) (tgt := 23) dX8_text_7 (by decide) ?_ ?_
  · skip
    refine sm_aload_n (pc := 23) (n := 0) dX8_text_23 rfl ?_
    refine gf_X8_60 (pc := 24) rfl dX8_text_24 ?_
    refine sm_cV (pc := 27) (ci := 2) (n := 1) (mc := 0) (ms := 0) rfl (zMet_str m_X2_read) (cr_X8_100 (X := X_X8_text) (fr := 30) (frc := 29) (pc := 27) (mc := 0) (ms := 0) rfl (by decide) dX8_text_27) ?_
    refine sm_ifS_eq (pc := 30) (tgt := 60) dX8_text_30 (by decide) ?_ ?_
    · skip
      refine sm_iconst (pc := 60) dX8_text_60 zc_i_m1 ?_
      refine sm_istore_n (pc := 61) (n := 2) dX8_text_61 rfl ?_
      exact hj62.use
    · skip
      refine sm_aload_n (pc := 33) (n := 0) dX8_text_33 rfl ?_
      refine gf_X8_60 (pc := 34) rfl dX8_text_34 ?_
      refine gf_X8_104 (pc := 37) rfl dX8_text_37 ?_
      refine sm_iconst (pc := 40) dX8_text_40 zc_i_0 ?_
      refine sm_aaloadT (pc := 41) dX8_text_41 ?_
      refine sm_iconst (pc := 42) dX8_text_42 zc_i_0 ?_
      refine sm_aload_n (pc := 43) (n := 0) dX8_text_43 rfl ?_
      refine gf_X8_23 (pc := 44) rfl dX8_text_44 ?_
      refine sm_iload_n (pc := 47) (n := 1) dX8_text_47 rfl ?_
      refine sm_aaloadT (pc := 48) dX8_text_48 ?_
      refine sm_iconst (pc := 49) dX8_text_49 zc_i_0 ?_
      refine sm_bipush (pc := 50) dX8_text_50 zc_b_11 ?_
      refine sm_copyJ (pc := 52) wd_771 wd_80 wd_79 wd_7 (by decide) dX8_text_52 ?_
      refine sm_iconst (pc := 55) dX8_text_55 zc_i_0 ?_
      refine sm_istore_n (pc := 56) (n := 2) dX8_text_56 rfl ?_
      exact scX8_texta_57 P j62 hj62
  · skip
    refine sm_aload_n (pc := 10) (n := 0) dX8_text_10 rfl ?_
    refine gf_X8_60 (pc := 11) rfl dX8_text_11 ?_
    refine gf_X8_91 (pc := 14) rfl dX8_text_14 ?_
    refine sm_cV (pc := 17) (ci := 1) (n := 1) (mc := 0) (ms := 0) rfl (zMet_str m_X1_clear) (cr_X8_95 (X := X_X8_text) (fr := 30) (frc := 1) (pc := 17) (mc := 0) (ms := 0) rfl (by decide) dX8_text_17) ?_
    refine sm_goto (pc := 20) (tgt := 62) dX8_text_20 (by decide) ?_
    exact hj62.use
noncomputable def f_X8_texta {d : Nat} : List zV → zH d → zP d → Bool := zfn 3 b_X8_texta
theorem m_X8_texta {d : Nat} : zMet (d := d) X_X8_text yX8_text 30 f_X8_texta := zmet_mk (X := X_X8_text) (by decide) rfl rfl s_X8_texta

noncomputable def bX8_faulta_68 {d : Nat} (P : zP d) : zK d := (xpI 4294967295 (xiret P))
set_option maxRecDepth 100000 in
set_option maxHeartbeats 4000000 in
theorem sbX8_faulta_68 {d : Nat} [zGh] (P : zP d) : zSim X_X8_fault 1 P 68 (bX8_faulta_68 P) := by
  unfold bX8_faulta_68
  refine sm_iconst (pc := 68) dX8_fault_68 zc_i_m1 ?_
  exact sm_ireturn (pc := 69) dX8_fault_69 rfl
noncomputable def bX8_faulta_51 {d : Nat} (P : zP d) : zK d := (xild 1 (xpI 10 (xjoin (bX8_faulta_68 P) (fun j68 => (xcmpS tgeR rlGe rhS rlS rhLt (xild 1 (xpI 10 (xbin zsubR (xald 2 (xgfI 17 3 (xcmpS tgeR rlGe rhS rlS rhLt j68 (xald 2 (xgfR 17 2 (xild 1 (xpI 10 (xbin zsubR (xalQ 0 (xiret P))))))))))))) j68)))))
set_option maxRecDepth 100000 in
set_option maxHeartbeats 4000000 in
theorem sbX8_faulta_51 {d : Nat} [zGh] (P : zP d) : zSim X_X8_fault 1 P 51 (bX8_faulta_51 P) := by
  unfold bX8_faulta_51
  refine sm_iload_n (pc := 51) (n := 1) dX8_fault_51 rfl ?_
  refine sm_bipush (pc := 52) dX8_fault_52 zc_b_10 ?_
  refine sm_joinJ (pc := 54) (pc' := 68) (j := 1) (fun G0 hG0 => @sbX8_faulta_68 d G0 P) (fun j68 hj68 => ?_)
  refine sm_icmpS_lt (pc := 54) (tgt := 68) dX8_fault_54 (by decide) ?_ ?_
  · skip
    exact hj68.use
  · skip
    refine sm_iload_n (pc := 57) (n := 1) dX8_fault_57 rfl ?_
    refine sm_bipush (pc := 58) dX8_fault_58 zc_b_10 ?_
    refine sm_isubR (pc := 60) dX8_fault_60 ?_
    refine sm_aload_n (pc := 61) (n := 2) dX8_fault_61 rfl ?_
    refine gf_X8_119 (pc := 62) rfl dX8_fault_62 ?_
    refine sm_icmpS_lt (pc := 65) (tgt := 70) dX8_fault_65 (by decide) ?_ ?_
    · skip
      refine sm_aload_n (pc := 70) (n := 2) dX8_fault_70 rfl ?_
      refine gf_X8_122 (pc := 71) rfl dX8_fault_71 ?_
      refine sm_iload_n (pc := 74) (n := 1) dX8_fault_74 rfl ?_
      refine sm_bipush (pc := 75) dX8_fault_75 zc_b_10 ?_
      refine sm_isubR (pc := 77) dX8_fault_77 ?_
      refine sm_ialoadQ (pc := 78) dX8_fault_78 ?_
      exact sm_ireturn (pc := 79) dX8_fault_79 rfl
    · skip
      exact hj68.use
noncomputable def bX8_faulta_36 {d : Nat} (P : zP d) : zK d := (xald 2 (xgfI 17 0 (xiret P)))
set_option maxRecDepth 100000 in
set_option maxHeartbeats 4000000 in
theorem sbX8_faulta_36 {d : Nat} [zGh] (P : zP d) : zSim X_X8_fault 1 P 36 (bX8_faulta_36 P) := by
  unfold bX8_faulta_36
  refine sm_aload_n (pc := 36) (n := 2) dX8_fault_36 rfl ?_
  refine gf_X8_113 (pc := 37) rfl dX8_fault_37 ?_
  exact sm_ireturn (pc := 40) dX8_fault_40 rfl
noncomputable def bX8_faulta_41 {d : Nat} (P : zP d) : zK d := (xald 2 (xgfI 17 1 (xiret P)))
set_option maxRecDepth 100000 in
set_option maxHeartbeats 4000000 in
theorem sbX8_faulta_41 {d : Nat} [zGh] (P : zP d) : zSim X_X8_fault 1 P 41 (bX8_faulta_41 P) := by
  unfold bX8_faulta_41
  refine sm_aload_n (pc := 41) (n := 2) dX8_fault_41 rfl ?_
  refine gf_X8_116 (pc := 42) rfl dX8_fault_42 ?_
  exact sm_ireturn (pc := 45) dX8_fault_45 rfl
noncomputable def bX8_faulta_46 {d : Nat} (P : zP d) : zK d := (xald 2 (xgfI 17 3 (xiret P)))
set_option maxRecDepth 100000 in
set_option maxHeartbeats 4000000 in
theorem sbX8_faulta_46 {d : Nat} [zGh] (P : zP d) : zSim X_X8_fault 1 P 46 (bX8_faulta_46 P) := by
  unfold bX8_faulta_46
  refine sm_aload_n (pc := 46) (n := 2) dX8_fault_46 rfl ?_
  refine gf_X8_119 (pc := 47) rfl dX8_fault_47 ?_
  exact sm_ireturn (pc := 50) dX8_fault_50 rfl
noncomputable def b_X8_faulta {d : Nat} (P : zP d) : zK d := (xald 0 (xgfR 24 5 (xgfR 18 0 (xast 2 (xild 1 (xtswR 2 [(bX8_faulta_36 P), (bX8_faulta_41 P), (bX8_faulta_46 P)] (bX8_faulta_51 P)))))))
set_option maxRecDepth 100000 in
set_option maxHeartbeats 4000000 in
theorem s_X8_faulta {d : Nat} [zGh] (P : zP d) : zSim X_X8_fault 1 P 0 (b_X8_faulta P) := by
  unfold b_X8_faulta
  refine sm_aload_n (pc := 0) (n := 0) dX8_fault_0 rfl ?_
  refine gf_X8_60 (pc := 1) rfl dX8_fault_1 ?_
  refine gf_X8_91 (pc := 4) rfl dX8_fault_4 ?_
  refine sm_astore_n (pc := 7) (n := 2) dX8_fault_7 rfl ?_
  refine sm_iload_n (pc := 8) (n := 1) dX8_fault_8 rfl ?_
  exact sm_tswR (pc := 9) (n := 2) (tdf := 51) [36, 41, 46] rfl (by decide) dX8_fault_9 rfl (by decide +kernel) (by decide) (sbX8_faulta_51 P) ⟨sbX8_faulta_36 P, sbX8_faulta_41 P, sbX8_faulta_46 P, trivial⟩
noncomputable def f_X8_faulta {d : Nat} : List zV → zH d → zP d → Bool := zfn 3 b_X8_faulta
theorem m_X8_faulta {d : Nat} : zMet (d := d) X_X8_fault yX8_fault 1 f_X8_faulta := zmet_mk (X := X_X8_fault) (by decide) rfl rfl s_X8_faulta

noncomputable def bX8_partitiona_13 {d : Nat} (P : zP d) : zK d := (xpI 4294967295 (xiret P))
set_option maxRecDepth 100000 in
set_option maxHeartbeats 4000000 in
theorem sbX8_partitiona_13 {d : Nat} [zGh] (P : zP d) : zSim X_X8_partition 2 P 13 (bX8_partitiona_13 P) := by
  unfold bX8_partitiona_13
  refine sm_iconst (pc := 13) dX8_partition_13 zc_i_m1 ?_
  exact sm_ireturn (pc := 14) dX8_partition_14 rfl
noncomputable def bX8_partitiona_45 {d : Nat} (P : zP d) : zK d := (xiret P)
set_option maxRecDepth 100000 in
set_option maxHeartbeats 4000000 in
theorem sbX8_partitiona_45 {d : Nat} [zGh] (P : zP d) : zSim X_X8_partition 2 P 45 (bX8_partitiona_45 P) := by
  unfold bX8_partitiona_45
  exact sm_ireturn (pc := 45) dX8_partition_45 rfl
noncomputable def b_X8_partitiona {d : Nat} (P : zP d) : zK d := (xald 0 (xild 1 (xcV 24 2 0 0 (zstr f_X8_isPartitiona) (xjoin (bX8_partitiona_13 P) (fun j13 => (xif0S teqR rlEq rhEq rlNe rhNe j13 (xild 2 (xpI 4294967295 (xcmpS tgeR rlGe rhS rlS rhLt (xald 0 (xgfR 24 6 (xgfR 23 3 (xild 1 (xaaT (xast 3 (xild 2 (xpI 4294967295 (xjoin (bX8_partitiona_45 P) (fun j45 => (xcmpS teqR rlEq rhEq rlNe rhNe (xald 3 (xgfI 20 1 j45)) (xald 3 (xgfR 20 2 (xild 2 (xcS 2 0 0 (zstr f_X8_partAta) j45))))))))))))))) j13)))))))))
set_option maxRecDepth 100000 in
set_option maxHeartbeats 4000000 in
theorem s_X8_partitiona {d : Nat} [zGh] (P : zP d) : zSim X_X8_partition 2 P 0 (b_X8_partitiona P) := by
  unfold b_X8_partitiona
  refine sm_aload_n (pc := 0) (n := 0) dX8_partition_0 rfl ?_
  refine sm_iload_n (pc := 1) (n := 1) dX8_partition_1 rfl ?_
  refine sm_cV (pc := 2) (ci := 8) (n := 2) (mc := 0) (ms := 0) rfl (zMet_str m_X8_isPartitiona) (cr_X8_126 (X := X_X8_partition) (fr := 2) (frc := 1) (pc := 2) (mc := 0) (ms := 0) rfl (by decide) dX8_partition_2) ?_
  refine sm_joinJ (pc := 5) (pc' := 13) (j := 1) (fun G0 hG0 => @sbX8_partitiona_13 d G0 P) (fun j13 hj13 => ?_)
  refine sm_ifS_eq (pc := 5) (tgt := 13) dX8_partition_5 (by decide) ?_ ?_
  · skip
    exact hj13.use
  · skip
    refine sm_iload_n (pc := 8) (n := 2) dX8_partition_8 rfl ?_
    refine sm_iconst (pc := 9) dX8_partition_9 zc_i_m1 ?_
    refine sm_icmpS_ge (pc := 10) (tgt := 15) dX8_partition_10 (by decide) ?_ ?_
    · skip
      refine sm_aload_n (pc := 15) (n := 0) dX8_partition_15 rfl ?_
      refine gf_X8_40 (pc := 16) rfl dX8_partition_16 ?_
      refine gf_X8_129 (pc := 19) rfl dX8_partition_19 ?_
      refine sm_iload_n (pc := 22) (n := 1) dX8_partition_22 rfl ?_
      refine sm_aaloadT (pc := 23) dX8_partition_23 ?_
      refine sm_astore_n (pc := 24) (n := 3) dX8_partition_24 rfl ?_
      refine sm_iload_n (pc := 25) (n := 2) dX8_partition_25 rfl ?_
      refine sm_iconst (pc := 26) dX8_partition_26 zc_i_m1 ?_
      refine sm_joinJ (pc := 27) (pc' := 45) (j := 1) (fun G0 hG0 => @sbX8_partitiona_45 d G0 P) (fun j45 hj45 => ?_)
      refine sm_icmpS_ne (pc := 27) (tgt := 37) dX8_partition_27 (by decide) ?_ ?_
      · skip
        refine sm_aload_n (pc := 37) (n := 3) dX8_partition_37 rfl ?_
        refine gf_X8_138 (pc := 38) rfl dX8_partition_38 ?_
        refine sm_iload_n (pc := 41) (n := 2) dX8_partition_41 rfl ?_
        refine sm_cS (pc := 42) (n := 2) (mc := 0) (ms := 0) (zMet_str m_X8_partAta) (cr_X8_141 (X := X_X8_partition) (fr := 2) (frc := 1) (pc := 42) (mc := 0) (ms := 0) rfl (by decide) dX8_partition_42) ?_
        exact hj45.use
      · skip
        refine sm_aload_n (pc := 30) (n := 3) dX8_partition_30 rfl ?_
        refine gf_X8_133 (pc := 31) rfl dX8_partition_31 ?_
        refine sm_goto (pc := 34) (tgt := 45) dX8_partition_34 (by decide) ?_
        exact hj45.use
    · skip
      exact hj13.use
noncomputable def f_X8_partitiona {d : Nat} : List zV → zH d → zP d → Bool := zfn 4 b_X8_partitiona
theorem m_X8_partitiona {d : Nat} : zMet (d := d) X_X8_partition yX8_partition 2 f_X8_partitiona := zmet_mk (X := X_X8_partition) (by decide) rfl rfl s_X8_partitiona

noncomputable def bX8_ofa_159 {d : Nat} (P : zP d) : zK d := (xpI 4294967295 (xiret P))
set_option maxRecDepth 100000 in
set_option maxHeartbeats 4000000 in
theorem sbX8_ofa_159 {d : Nat} [zGh] (P : zP d) : zSim X_X8_of 2 P 159 (bX8_ofa_159 P) := by
  unfold bX8_ofa_159
  refine sm_iconst (pc := 159) dX8_of_159 zc_i_m1 ?_
  exact sm_ireturn (pc := 160) dX8_of_160 rfl
noncomputable def bX8_ofa_56 {d : Nat} (P : zP d) : zK d := (xald 0 (xgfR 24 7 (xild 1 (xcV 21 2 0 0 (zstr f_X5_isRegular) (xcS 1 0 0 (zstr f_X8_bit) (xiret P))))))
set_option maxRecDepth 100000 in
set_option maxHeartbeats 4000000 in
theorem sbX8_ofa_56 {d : Nat} [zGh] (P : zP d) : zSim X_X8_of 2 P 56 (bX8_ofa_56 P) := by
  unfold bX8_ofa_56
  refine sm_aload_n (pc := 56) (n := 0) dX8_of_56 rfl ?_
  refine gf_X8_47 (pc := 57) rfl dX8_of_57 ?_
  refine sm_iload_n (pc := 60) (n := 1) dX8_of_60 rfl ?_
  refine sm_cV (pc := 61) (ci := 5) (n := 2) (mc := 0) (ms := 0) rfl (zMet_str m_X5_isRegular) (cr_X8_145 (X := X_X8_of) (fr := 2) (frc := 1) (pc := 61) (mc := 0) (ms := 0) rfl (by decide) dX8_of_61) ?_
  refine sm_cS (pc := 64) (n := 1) (mc := 0) (ms := 0) (zMet_str m_X8_bit) (cr_X8_148 (X := X_X8_of) (fr := 2) (frc := 1) (pc := 64) (mc := 0) (ms := 0) rfl (by decide) dX8_of_64) ?_
  exact sm_ireturn (pc := 67) dX8_of_67 rfl
noncomputable def bX8_ofa_68 {d : Nat} (P : zP d) : zK d := (xald 0 (xgfR 24 7 (xgfR 21 10 (xgfR 16 0 (xild 1 (xalQ 0 (xiret P)))))))
set_option maxRecDepth 100000 in
set_option maxHeartbeats 4000000 in
theorem sbX8_ofa_68 {d : Nat} [zGh] (P : zP d) : zSim X_X8_of 2 P 68 (bX8_ofa_68 P) := by
  unfold bX8_ofa_68
  refine sm_aload_n (pc := 68) (n := 0) dX8_of_68 rfl ?_
  refine gf_X8_47 (pc := 69) rfl dX8_of_69 ?_
  refine gf_X8_152 (pc := 72) rfl dX8_of_72 ?_
  refine gf_X8_156 (pc := 75) rfl dX8_of_75 ?_
  refine sm_iload_n (pc := 78) (n := 1) dX8_of_78 rfl ?_
  refine sm_ialoadQ (pc := 79) dX8_of_79 ?_
  exact sm_ireturn (pc := 80) dX8_of_80 rfl
noncomputable def bX8_ofa_81 {d : Nat} (P : zP d) : zK d := (xald 0 (xgfR 24 7 (xgfR 21 10 (xgfR 16 2 (xild 1 (xalQ 0 (xiret P)))))))
set_option maxRecDepth 100000 in
set_option maxHeartbeats 4000000 in
theorem sbX8_ofa_81 {d : Nat} [zGh] (P : zP d) : zSim X_X8_of 2 P 81 (bX8_ofa_81 P) := by
  unfold bX8_ofa_81
  refine sm_aload_n (pc := 81) (n := 0) dX8_of_81 rfl ?_
  refine gf_X8_47 (pc := 82) rfl dX8_of_82 ?_
  refine gf_X8_152 (pc := 85) rfl dX8_of_85 ?_
  refine gf_X8_161 (pc := 88) rfl dX8_of_88 ?_
  refine sm_iload_n (pc := 91) (n := 1) dX8_of_91 rfl ?_
  refine sm_ialoadQ (pc := 92) dX8_of_92 ?_
  exact sm_ireturn (pc := 93) dX8_of_93 rfl
noncomputable def bX8_ofa_94 {d : Nat} (P : zP d) : zK d := (xald 0 (xgfR 24 6 (xgfR 23 3 (xild 1 (xaaT (xgfI 20 5 (xiret P)))))))
set_option maxRecDepth 100000 in
set_option maxHeartbeats 4000000 in
theorem sbX8_ofa_94 {d : Nat} [zGh] (P : zP d) : zSim X_X8_of 2 P 94 (bX8_ofa_94 P) := by
  unfold bX8_ofa_94
  refine sm_aload_n (pc := 94) (n := 0) dX8_of_94 rfl ?_
  refine gf_X8_40 (pc := 95) rfl dX8_of_95 ?_
  refine gf_X8_129 (pc := 98) rfl dX8_of_98 ?_
  refine sm_iload_n (pc := 101) (n := 1) dX8_of_101 rfl ?_
  refine sm_aaloadT (pc := 102) dX8_of_102 ?_
  refine gf_X8_164 (pc := 103) rfl dX8_of_103 ?_
  exact sm_ireturn (pc := 106) dX8_of_106 rfl
noncomputable def bX8_ofa_107 {d : Nat} (P : zP d) : zK d := (xald 0 (xgfR 24 7 (xgfR 21 5 (xild 1 (xalQ 0 (xiret P))))))
set_option maxRecDepth 100000 in
set_option maxHeartbeats 4000000 in
theorem sbX8_ofa_107 {d : Nat} [zGh] (P : zP d) : zSim X_X8_of 2 P 107 (bX8_ofa_107 P) := by
  unfold bX8_ofa_107
  refine sm_aload_n (pc := 107) (n := 0) dX8_of_107 rfl ?_
  refine gf_X8_47 (pc := 108) rfl dX8_of_108 ?_
  refine gf_X8_167 (pc := 111) rfl dX8_of_111 ?_
  refine sm_iload_n (pc := 114) (n := 1) dX8_of_114 rfl ?_
  refine sm_ialoadQ (pc := 115) dX8_of_115 ?_
  exact sm_ireturn (pc := 116) dX8_of_116 rfl
noncomputable def bX8_ofa_117 {d : Nat} (P : zP d) : zK d := (xald 0 (xgfR 24 6 (xgfR 23 4 (xild 1 (xalQ 0 (xiret P))))))
set_option maxRecDepth 100000 in
set_option maxHeartbeats 4000000 in
theorem sbX8_ofa_117 {d : Nat} [zGh] (P : zP d) : zSim X_X8_of 2 P 117 (bX8_ofa_117 P) := by
  unfold bX8_ofa_117
  refine sm_aload_n (pc := 117) (n := 0) dX8_of_117 rfl ?_
  refine gf_X8_40 (pc := 118) rfl dX8_of_118 ?_
  refine gf_X8_170 (pc := 121) rfl dX8_of_121 ?_
  refine sm_iload_n (pc := 124) (n := 1) dX8_of_124 rfl ?_
  refine sm_ialoadQ (pc := 125) dX8_of_125 ?_
  exact sm_ireturn (pc := 126) dX8_of_126 rfl
noncomputable def bX8_ofa_145 {d : Nat} (P : zP d) : zK d := (xcS 1 0 0 (zstr f_X8_bit) (xiret P))
set_option maxRecDepth 100000 in
set_option maxHeartbeats 4000000 in
theorem sbX8_ofa_145 {d : Nat} [zGh] (P : zP d) : zSim X_X8_of 2 P 145 (bX8_ofa_145 P) := by
  unfold bX8_ofa_145
  refine sm_cS (pc := 145) (n := 1) (mc := 0) (ms := 0) (zMet_str m_X8_bit) (cr_X8_148 (X := X_X8_of) (fr := 2) (frc := 1) (pc := 145) (mc := 0) (ms := 0) rfl (by decide) dX8_of_145) ?_
  exact sm_ireturn (pc := 148) dX8_of_148 rfl
noncomputable def bX8_ofa_127 {d : Nat} (P : zP d) : zK d := (xald 0 (xgfR 24 6 (xgfR 23 4 (xild 1 (xalQ 0 (xild 1 (xjoin (bX8_ofa_145 P) (fun j145 => (xcmpS teqR rlEq rhEq rlNe rhNe (xpI 1 j145) (xpI 0 j145))))))))))
set_option maxRecDepth 100000 in
set_option maxHeartbeats 4000000 in
theorem sbX8_ofa_127 {d : Nat} [zGh] (P : zP d) : zSim X_X8_of 2 P 127 (bX8_ofa_127 P) := by
  unfold bX8_ofa_127
  refine sm_aload_n (pc := 127) (n := 0) dX8_of_127 rfl ?_
  refine gf_X8_40 (pc := 128) rfl dX8_of_128 ?_
  refine gf_X8_170 (pc := 131) rfl dX8_of_131 ?_
  refine sm_iload_n (pc := 134) (n := 1) dX8_of_134 rfl ?_
  refine sm_ialoadQ (pc := 135) dX8_of_135 ?_
  refine sm_iload_n (pc := 136) (n := 1) dX8_of_136 rfl ?_
  refine sm_joinJ (pc := 137) (pc' := 145) (j := 1) (fun G0 hG0 => @sbX8_ofa_145 d G0 P) (fun j145 hj145 => ?_)
  refine sm_icmpS_ne (pc := 137) (tgt := 144) dX8_of_137 (by decide) ?_ ?_
  · skip
    refine sm_iconst (pc := 144) dX8_of_144 zc_i_0 ?_
    exact hj145.use
  · skip
    refine sm_iconst (pc := 140) dX8_of_140 zc_i_1 ?_
    refine sm_goto (pc := 141) (tgt := 145) dX8_of_141 (by decide) ?_
    exact hj145.use
noncomputable def bX8_ofa_149 {d : Nat} (P : zP d) : zK d := (xald 0 (xgfR 24 7 (xgfR 21 2 (xild 1 (xalQ 0 (xiret P))))))
set_option maxRecDepth 100000 in
set_option maxHeartbeats 4000000 in
theorem sbX8_ofa_149 {d : Nat} [zGh] (P : zP d) : zSim X_X8_of 2 P 149 (bX8_ofa_149 P) := by
  unfold bX8_ofa_149
  refine sm_aload_n (pc := 149) (n := 0) dX8_of_149 rfl ?_
  refine gf_X8_47 (pc := 150) rfl dX8_of_150 ?_
  refine gf_X8_173 (pc := 153) rfl dX8_of_153 ?_
  refine sm_iload_n (pc := 156) (n := 1) dX8_of_156 rfl ?_
  refine sm_ialoadQ (pc := 157) dX8_of_157 ?_
  exact sm_ireturn (pc := 158) dX8_of_158 rfl
noncomputable def b_X8_ofa {d : Nat} (P : zP d) : zK d := (xald 0 (xild 1 (xcV 24 2 0 0 (zstr f_X8_isPartitiona) (xif0S teqR rlEq rhEq rlNe rhNe (xpI 4294967295 (xiret P)) (xild 2 (xtswR 7 [(bX8_ofa_56 P), (bX8_ofa_68 P), (bX8_ofa_81 P), (bX8_ofa_94 P), (bX8_ofa_107 P), (bX8_ofa_117 P), (bX8_ofa_127 P), (bX8_ofa_149 P)] (bX8_ofa_159 P)))))))
set_option maxRecDepth 100000 in
set_option maxHeartbeats 4000000 in
theorem s_X8_ofa {d : Nat} [zGh] (P : zP d) : zSim X_X8_of 2 P 0 (b_X8_ofa P) := by
  unfold b_X8_ofa
  refine sm_aload_n (pc := 0) (n := 0) dX8_of_0 rfl ?_
  refine sm_iload_n (pc := 1) (n := 1) dX8_of_1 rfl ?_
  refine sm_cV (pc := 2) (ci := 8) (n := 2) (mc := 0) (ms := 0) rfl (zMet_str m_X8_isPartitiona) (cr_X8_126 (X := X_X8_of) (fr := 2) (frc := 1) (pc := 2) (mc := 0) (ms := 0) rfl (by decide) dX8_of_2) ?_
  refine sm_ifS_ne (pc := 5) (tgt := 10) dX8_of_5 (by decide) ?_ ?_
  · skip
    refine sm_iload_n (pc := 10) (n := 2) dX8_of_10 rfl ?_
    exact sm_tswR (pc := 11) (n := 7) (tdf := 159) [56, 68, 81, 94, 107, 117, 127, 149] rfl (by decide) dX8_of_11 rfl (by decide +kernel) (by decide) (sbX8_ofa_159 P) ⟨sbX8_ofa_56 P, sbX8_ofa_68 P, sbX8_ofa_81 P, sbX8_ofa_94 P, sbX8_ofa_107 P, sbX8_ofa_117 P, sbX8_ofa_127 P, sbX8_ofa_149 P, trivial⟩
  · skip
    refine sm_iconst (pc := 8) dX8_of_8 zc_i_m1 ?_
    exact sm_ireturn (pc := 9) dX8_of_9 rfl
noncomputable def f_X8_ofa {d : Nat} : List zV → zH d → zP d → Bool := zfn 3 b_X8_ofa
theorem m_X8_ofa {d : Nat} : zMet (d := d) X_X8_of yX8_of 2 f_X8_ofa := zmet_mk (X := X_X8_of) (by decide) rfl rfl s_X8_ofa

noncomputable def bX8_corea_13 {d : Nat} (P : zP d) : zK d := (xpI 4294967295 (xiret P))
set_option maxRecDepth 100000 in
set_option maxHeartbeats 4000000 in
theorem sbX8_corea_13 {d : Nat} [zGh] (P : zP d) : zSim X_X8_core 2 P 13 (bX8_corea_13 P) := by
  unfold bX8_corea_13
  refine sm_iconst (pc := 13) dX8_core_13 zc_i_m1 ?_
  exact sm_ireturn (pc := 14) dX8_core_14 rfl
noncomputable def bX8_corea_63 {d : Nat} (P : zP d) : zK d := (xiret P)
set_option maxRecDepth 100000 in
set_option maxHeartbeats 4000000 in
theorem sbX8_corea_63 {d : Nat} [zGh] (P : zP d) : zSim X_X8_core 2 P 63 (bX8_corea_63 P) := by
  unfold bX8_corea_63
  exact sm_ireturn (pc := 63) dX8_core_63 rfl
noncomputable def cX8_corea_48 {d : Nat} (P : zP d) (j63 : zK d) : zK d := (xbin zmulR (xbin zsubR j63))
set_option maxRecDepth 100000 in
set_option maxHeartbeats 4000000 in
theorem scX8_corea_48 {d : Nat} [zGh] (P : zP d) (j63 : zK d) (hj63 : zSimJ 1 X_X8_core 2 P 63 j63) : zSim X_X8_core 2 P 48 (cX8_corea_48 P j63) := by
  unfold cX8_corea_48
  refine sm_imulR (pc := 48) dX8_core_48 ?_
  refine sm_isubR (pc := 49) dX8_core_49 ?_
  refine sm_goto (pc := 50) (tgt := 63) dX8_core_50 (by decide) ?_
  exact hj63.use
noncomputable def b_X8_corea {d : Nat} (P : zP d) : zK d := (xald 0 (xild 1 (xcV 24 2 0 0 (zstr f_X8_isPartitiona) (xjoin (bX8_corea_13 P) (fun j13 => (xif0S teqR rlEq rhEq rlNe rhNe j13 (xild 2 (xpI 4294967295 (xcmpS tgeR rlGe rhS rlS rhLt (xald 0 (xgfR 24 7 (xgfR 21 10 (xast 3 (xild 2 (xpI 4294967295 (xjoin (bX8_corea_63 P) (fun j63 => (xcmpS teqR rlEq rhEq rlNe rhNe (xald 0 (xgfR 24 6 (xgfI 23 0 (xald 0 (xgfR 24 7 (xgfI 21 1 (xald 3 (xgfR 16 0 (xild 1 (xalQ 0 (cX8_corea_48 P j63))))))))))) (xald 3 (xgfR 16 1 (xild 1 (xaaT (xild 2 (xcS 2 0 0 (zstr f_X8_partAta) j63))))))))))))))) j13)))))))))
set_option maxRecDepth 100000 in
set_option maxHeartbeats 4000000 in
theorem s_X8_corea {d : Nat} [zGh] (P : zP d) : zSim X_X8_core 2 P 0 (b_X8_corea P) := by
  unfold b_X8_corea
  refine sm_aload_n (pc := 0) (n := 0) dX8_core_0 rfl ?_
  refine sm_iload_n (pc := 1) (n := 1) dX8_core_1 rfl ?_
  refine sm_cV (pc := 2) (ci := 8) (n := 2) (mc := 0) (ms := 0) rfl (zMet_str m_X8_isPartitiona) (cr_X8_126 (X := X_X8_core) (fr := 2) (frc := 1) (pc := 2) (mc := 0) (ms := 0) rfl (by decide) dX8_core_2) ?_
  refine sm_joinJ (pc := 5) (pc' := 13) (j := 1) (fun G0 hG0 => @sbX8_corea_13 d G0 P) (fun j13 hj13 => ?_)
  refine sm_ifS_eq (pc := 5) (tgt := 13) dX8_core_5 (by decide) ?_ ?_
  · skip
    exact hj13.use
  · skip
    refine sm_iload_n (pc := 8) (n := 2) dX8_core_8 rfl ?_
    refine sm_iconst (pc := 9) dX8_core_9 zc_i_m1 ?_
    refine sm_icmpS_ge (pc := 10) (tgt := 15) dX8_core_10 (by decide) ?_ ?_
    · skip
      refine sm_aload_n (pc := 15) (n := 0) dX8_core_15 rfl ?_
      refine gf_X8_47 (pc := 16) rfl dX8_core_16 ?_
      refine gf_X8_152 (pc := 19) rfl dX8_core_19 ?_
      refine sm_astore_n (pc := 22) (n := 3) dX8_core_22 rfl ?_
      refine sm_iload_n (pc := 23) (n := 2) dX8_core_23 rfl ?_
      refine sm_iconst (pc := 24) dX8_core_24 zc_i_m1 ?_
      refine sm_joinJ (pc := 25) (pc' := 63) (j := 1) (fun G0 hG0 => @sbX8_corea_63 d G0 P) (fun j63 hj63 => ?_)
      refine sm_icmpS_ne (pc := 25) (tgt := 53) dX8_core_25 (by decide) ?_ ?_
      · skip
        refine sm_aload_n (pc := 53) (n := 3) dX8_core_53 rfl ?_
        refine gf_X8_182 (pc := 54) rfl dX8_core_54 ?_
        refine sm_iload_n (pc := 57) (n := 1) dX8_core_57 rfl ?_
        refine sm_aaloadT (pc := 58) dX8_core_58 ?_
        refine sm_iload_n (pc := 59) (n := 2) dX8_core_59 rfl ?_
        refine sm_cS (pc := 60) (n := 2) (mc := 0) (ms := 0) (zMet_str m_X8_partAta) (cr_X8_141 (X := X_X8_core) (fr := 2) (frc := 1) (pc := 60) (mc := 0) (ms := 0) rfl (by decide) dX8_core_60) ?_
        exact hj63.use
      · skip
        refine sm_aload_n (pc := 28) (n := 0) dX8_core_28 rfl ?_
        refine gf_X8_40 (pc := 29) rfl dX8_core_29 ?_
        refine gf_X8_176 (pc := 32) rfl dX8_core_32 ?_
        refine sm_aload_n (pc := 35) (n := 0) dX8_core_35 rfl ?_
        refine gf_X8_47 (pc := 36) rfl dX8_core_36 ?_
        refine gf_X8_179 (pc := 39) rfl dX8_core_39 ?_
        refine sm_aload_n (pc := 42) (n := 3) dX8_core_42 rfl ?_
        refine gf_X8_156 (pc := 43) rfl dX8_core_43 ?_
        refine sm_iload_n (pc := 46) (n := 1) dX8_core_46 rfl ?_
        refine sm_ialoadQ (pc := 47) dX8_core_47 ?_
        exact scX8_corea_48 P j63 hj63
    · skip
      exact hj13.use
noncomputable def f_X8_corea {d : Nat} : List zV → zH d → zP d → Bool := zfn 4 b_X8_corea
theorem m_X8_corea {d : Nat} : zMet (d := d) X_X8_core yX8_core 2 f_X8_corea := zmet_mk (X := X_X8_core) (by decide) rfl rfl s_X8_corea

noncomputable def bX8_hooka_25 {d : Nat} (P : zP d) : zK d := (xpI 4294967295 (xiret P))
set_option maxRecDepth 100000 in
set_option maxHeartbeats 4000000 in
theorem sbX8_hooka_25 {d : Nat} [zGh] (P : zP d) : zSim X_X8_hook 2 P 25 (bX8_hooka_25 P) := by
  unfold bX8_hooka_25
  refine sm_iconst (pc := 25) dX8_hook_25 zc_i_m1 ?_
  exact sm_ireturn (pc := 26) dX8_hook_26 rfl
noncomputable def b_X8_hooka {d : Nat} (P : zP d) : zK d := (xald 0 (xild 1 (xcV 24 2 0 0 (zstr f_X8_isPartitiona) (xjoin (bX8_hooka_25 P) (fun j25 => (xif0S teqR rlEq rhEq rlNe rhNe j25 (xald 0 (xgfR 24 6 (xgfR 23 3 (xild 1 (xaaT (xild 2 (xild 3 (xcV 20 3 0 0 (zstr f_X4_hasCella) (xif0S teqR rlEq rhEq rlNe rhNe j25 (xald 0 (xgfR 24 6 (xgfR 23 3 (xild 1 (xaaT (xild 2 (xild 3 (xcV 20 3 0 0 (zstr f_X4_hookAt) (xiret P))))))))))))))))))))))))
set_option maxRecDepth 100000 in
set_option maxHeartbeats 4000000 in
theorem s_X8_hooka {d : Nat} [zGh] (P : zP d) : zSim X_X8_hook 2 P 0 (b_X8_hooka P) := by
  unfold b_X8_hooka
  refine sm_aload_n (pc := 0) (n := 0) dX8_hook_0 rfl ?_
  refine sm_iload_n (pc := 1) (n := 1) dX8_hook_1 rfl ?_
  refine sm_cV (pc := 2) (ci := 8) (n := 2) (mc := 0) (ms := 0) rfl (zMet_str m_X8_isPartitiona) (cr_X8_126 (X := X_X8_hook) (fr := 2) (frc := 1) (pc := 2) (mc := 0) (ms := 0) rfl (by decide) dX8_hook_2) ?_
  refine sm_joinJ (pc := 5) (pc' := 25) (j := 1) (fun G0 hG0 => @sbX8_hooka_25 d G0 P) (fun j25 hj25 => ?_)
  refine sm_ifS_eq (pc := 5) (tgt := 25) dX8_hook_5 (by decide) ?_ ?_
  · skip
    exact hj25.use
  · skip
    refine sm_aload_n (pc := 8) (n := 0) dX8_hook_8 rfl ?_
    refine gf_X8_40 (pc := 9) rfl dX8_hook_9 ?_
    refine gf_X8_129 (pc := 12) rfl dX8_hook_12 ?_
    refine sm_iload_n (pc := 15) (n := 1) dX8_hook_15 rfl ?_
    refine sm_aaloadT (pc := 16) dX8_hook_16 ?_
    refine sm_iload_n (pc := 17) (n := 2) dX8_hook_17 rfl ?_
    refine sm_iload_n (pc := 18) (n := 3) dX8_hook_18 rfl ?_
    refine sm_cV (pc := 19) (ci := 4) (n := 3) (mc := 0) (ms := 0) rfl (zMet_str m_X4_hasCella) (cr_X8_186 (X := X_X8_hook) (fr := 2) (frc := 1) (pc := 19) (mc := 0) (ms := 0) rfl (by decide) dX8_hook_19) ?_
    refine sm_ifS_ne (pc := 22) (tgt := 27) dX8_hook_22 (by decide) ?_ ?_
    · skip
      refine sm_aload_n (pc := 27) (n := 0) dX8_hook_27 rfl ?_
      refine gf_X8_40 (pc := 28) rfl dX8_hook_28 ?_
      refine gf_X8_129 (pc := 31) rfl dX8_hook_31 ?_
      refine sm_iload_n (pc := 34) (n := 1) dX8_hook_34 rfl ?_
      refine sm_aaloadT (pc := 35) dX8_hook_35 ?_
      refine sm_iload_n (pc := 36) (n := 2) dX8_hook_36 rfl ?_
      refine sm_iload_n (pc := 37) (n := 3) dX8_hook_37 rfl ?_
      refine sm_cV (pc := 38) (ci := 4) (n := 3) (mc := 0) (ms := 0) rfl (zMet_str m_X4_hookAt) (cr_X8_190 (X := X_X8_hook) (fr := 2) (frc := 1) (pc := 38) (mc := 0) (ms := 0) rfl (by decide) dX8_hook_38) ?_
      exact sm_ireturn (pc := 41) dX8_hook_41 rfl
    · skip
      exact hj25.use
noncomputable def f_X8_hooka {d : Nat} : List zV → zH d → zP d → Bool := zfn 4 b_X8_hooka
theorem m_X8_hooka {d : Nat} : zMet (d := d) X_X8_hook yX8_hook 2 f_X8_hooka := zmet_mk (X := X_X8_hook) (by decide) rfl rfl s_X8_hooka

noncomputable def bX8_classOfa_101 {d : Nat} (P : zP d) : zK d := (xpI 4294967294 (xiret P))
set_option maxRecDepth 100000 in
set_option maxHeartbeats 4000000 in
theorem sbX8_classOfa_101 {d : Nat} [zGh] (P : zP d) : zSim X_X8_classOf 2 P 101 (bX8_classOfa_101 P) := by
  unfold bX8_classOfa_101
  refine sm_bipush (pc := 101) dX8_classOf_101 zc_b_m2 ?_
  exact sm_ireturn (pc := 103) dX8_classOf_103 rfl
noncomputable def bX8_classOfa_48 {d : Nat} (P : zP d) : zK d := (xald 0 (xgfR 24 6 (xgfR 23 5 (xild 1 (xalQ 0 (xiret P))))))
set_option maxRecDepth 100000 in
set_option maxHeartbeats 4000000 in
theorem sbX8_classOfa_48 {d : Nat} [zGh] (P : zP d) : zSim X_X8_classOf 2 P 48 (bX8_classOfa_48 P) := by
  unfold bX8_classOfa_48
  refine sm_aload_n (pc := 48) (n := 0) dX8_classOf_48 rfl ?_
  refine gf_X8_40 (pc := 49) rfl dX8_classOf_49 ?_
  refine gf_X8_193 (pc := 52) rfl dX8_classOf_52 ?_
  refine sm_iload_n (pc := 55) (n := 1) dX8_classOf_55 rfl ?_
  refine sm_ialoadQ (pc := 56) dX8_classOf_56 ?_
  exact sm_ireturn (pc := 57) dX8_classOf_57 rfl
noncomputable def bX8_classOfa_58 {d : Nat} (P : zP d) : zK d := (xald 0 (xgfR 24 6 (xgfR 23 6 (xild 1 (xalQ 0 (xiret P))))))
set_option maxRecDepth 100000 in
set_option maxHeartbeats 4000000 in
theorem sbX8_classOfa_58 {d : Nat} [zGh] (P : zP d) : zSim X_X8_classOf 2 P 58 (bX8_classOfa_58 P) := by
  unfold bX8_classOfa_58
  refine sm_aload_n (pc := 58) (n := 0) dX8_classOf_58 rfl ?_
  refine gf_X8_40 (pc := 59) rfl dX8_classOf_59 ?_
  refine gf_X8_196 (pc := 62) rfl dX8_classOf_62 ?_
  refine sm_iload_n (pc := 65) (n := 1) dX8_classOf_65 rfl ?_
  refine sm_ialoadQ (pc := 66) dX8_classOf_66 ?_
  exact sm_ireturn (pc := 67) dX8_classOf_67 rfl
noncomputable def bX8_classOfa_68 {d : Nat} (P : zP d) : zK d := (xald 0 (xgfR 24 7 (xgfR 21 4 (xild 1 (xalQ 1 (xcS 1 0 0 (zstr f_X8_bit) (xiret P)))))))
set_option maxRecDepth 100000 in
set_option maxHeartbeats 4000000 in
theorem sbX8_classOfa_68 {d : Nat} [zGh] (P : zP d) : zSim X_X8_classOf 2 P 68 (bX8_classOfa_68 P) := by
  unfold bX8_classOfa_68
  refine sm_aload_n (pc := 68) (n := 0) dX8_classOf_68 rfl ?_
  refine gf_X8_47 (pc := 69) rfl dX8_classOf_69 ?_
  refine gf_X8_199 (pc := 72) rfl dX8_classOf_72 ?_
  refine sm_iload_n (pc := 75) (n := 1) dX8_classOf_75 rfl ?_
  refine sm_baloadQ (pc := 76) dX8_classOf_76 ?_
  refine sm_cS (pc := 77) (n := 1) (mc := 0) (ms := 0) (zMet_str m_X8_bit) (cr_X8_148 (X := X_X8_classOf) (fr := 2) (frc := 1) (pc := 77) (mc := 0) (ms := 0) rfl (by decide) dX8_classOf_77) ?_
  exact sm_ireturn (pc := 80) dX8_classOf_80 rfl
noncomputable def bX8_classOfa_81 {d : Nat} (P : zP d) : zK d := (xald 0 (xgfR 24 6 (xgfR 23 7 (xild 1 (xalQ 0 (xiret P))))))
set_option maxRecDepth 100000 in
set_option maxHeartbeats 4000000 in
theorem sbX8_classOfa_81 {d : Nat} [zGh] (P : zP d) : zSim X_X8_classOf 2 P 81 (bX8_classOfa_81 P) := by
  unfold bX8_classOfa_81
  refine sm_aload_n (pc := 81) (n := 0) dX8_classOf_81 rfl ?_
  refine gf_X8_40 (pc := 82) rfl dX8_classOf_82 ?_
  refine gf_X8_203 (pc := 85) rfl dX8_classOf_85 ?_
  refine sm_iload_n (pc := 88) (n := 1) dX8_classOf_88 rfl ?_
  refine sm_ialoadQ (pc := 89) dX8_classOf_89 ?_
  exact sm_ireturn (pc := 90) dX8_classOf_90 rfl
noncomputable def bX8_classOfa_91 {d : Nat} (P : zP d) : zK d := (xald 0 (xgfR 24 6 (xgfR 23 8 (xild 1 (xalQ 0 (xiret P))))))
set_option maxRecDepth 100000 in
set_option maxHeartbeats 4000000 in
theorem sbX8_classOfa_91 {d : Nat} [zGh] (P : zP d) : zSim X_X8_classOf 2 P 91 (bX8_classOfa_91 P) := by
  unfold bX8_classOfa_91
  refine sm_aload_n (pc := 91) (n := 0) dX8_classOf_91 rfl ?_
  refine gf_X8_40 (pc := 92) rfl dX8_classOf_92 ?_
  refine gf_X8_206 (pc := 95) rfl dX8_classOf_95 ?_
  refine sm_iload_n (pc := 98) (n := 1) dX8_classOf_98 rfl ?_
  refine sm_ialoadQ (pc := 99) dX8_classOf_99 ?_
  exact sm_ireturn (pc := 100) dX8_classOf_100 rfl
noncomputable def b_X8_classOfa {d : Nat} (P : zP d) : zK d := (xald 0 (xild 1 (xcV 24 2 0 0 (zstr f_X8_isPartitiona) (xif0S teqR rlEq rhEq rlNe rhNe (xpI 4294967294 (xiret P)) (xild 2 (xtswR 4 [(bX8_classOfa_48 P), (bX8_classOfa_58 P), (bX8_classOfa_68 P), (bX8_classOfa_81 P), (bX8_classOfa_91 P)] (bX8_classOfa_101 P)))))))
set_option maxRecDepth 100000 in
set_option maxHeartbeats 4000000 in
theorem s_X8_classOfa {d : Nat} [zGh] (P : zP d) : zSim X_X8_classOf 2 P 0 (b_X8_classOfa P) := by
  unfold b_X8_classOfa
  refine sm_aload_n (pc := 0) (n := 0) dX8_classOf_0 rfl ?_
  refine sm_iload_n (pc := 1) (n := 1) dX8_classOf_1 rfl ?_
  refine sm_cV (pc := 2) (ci := 8) (n := 2) (mc := 0) (ms := 0) rfl (zMet_str m_X8_isPartitiona) (cr_X8_126 (X := X_X8_classOf) (fr := 2) (frc := 1) (pc := 2) (mc := 0) (ms := 0) rfl (by decide) dX8_classOf_2) ?_
  refine sm_ifS_ne (pc := 5) (tgt := 11) dX8_classOf_5 (by decide) ?_ ?_
  · skip
    refine sm_iload_n (pc := 11) (n := 2) dX8_classOf_11 rfl ?_
    exact sm_tswR (pc := 12) (n := 4) (tdf := 101) [48, 58, 68, 81, 91] rfl (by decide) dX8_classOf_12 rfl (by decide +kernel) (by decide) (sbX8_classOfa_101 P) ⟨sbX8_classOfa_48 P, sbX8_classOfa_58 P, sbX8_classOfa_68 P, sbX8_classOfa_81 P, sbX8_classOfa_91 P, trivial⟩
  · skip
    refine sm_bipush (pc := 8) dX8_classOf_8 zc_b_m2 ?_
    exact sm_ireturn (pc := 10) dX8_classOf_10 rfl
noncomputable def f_X8_classOfa {d : Nat} : List zV → zH d → zP d → Bool := zfn 3 b_X8_classOfa
theorem m_X8_classOfa {d : Nat} : zMet (d := d) X_X8_classOf yX8_classOf 2 f_X8_classOfa := zmet_mk (X := X_X8_classOf) (by decide) rfl rfl s_X8_classOfa

noncomputable def bX8_charactera_33 {d : Nat} (P : zP d) : zK d := (xiret P)
set_option maxRecDepth 100000 in
set_option maxHeartbeats 4000000 in
theorem sbX8_charactera_33 {d : Nat} [zGh] (P : zP d) : zSim X_X8_character 2 P 33 (bX8_charactera_33 P) := by
  unfold bX8_charactera_33
  exact sm_ireturn (pc := 33) dX8_character_33 rfl
noncomputable def bX8_charactera_30 {d : Nat} (P : zP d) (j33 : zK d) : zK d := (xpI 4294966295 j33)
set_option maxRecDepth 100000 in
set_option maxHeartbeats 4000000 in
theorem sbX8_charactera_30 {d : Nat} [zGh] (P : zP d) (j33 : zK d) (hj33 : zSimJ 1 X_X8_character 2 P 33 j33) : zSim X_X8_character 2 P 30 (bX8_charactera_30 P j33) := by
  unfold bX8_charactera_30
  refine sm_sipush (pc := 30) dX8_character_30 zc_s_m1001 ?_
  exact hj33.use
noncomputable def b_X8_charactera {d : Nat} (P : zP d) : zK d := (xald 0 (xild 1 (xcV 24 2 0 0 (zstr f_X8_isPartitiona) (xjoin (bX8_charactera_33 P) (fun j33 => (xjoin (bX8_charactera_30 P j33) (fun j30 => (xif0S teqR rlEq rhEq rlNe rhNe j30 (xald 0 (xild 2 (xcV 24 2 0 0 (zstr f_X8_isPartitiona) (xif0S teqR rlEq rhEq rlNe rhNe j30 (xald 0 (xgfR 24 6 (xgfR 23 12 (xild 1 (xaaT (xild 2 (xalQ 0 j33)))))))))))))))))))
set_option maxRecDepth 100000 in
set_option maxHeartbeats 4000000 in
theorem s_X8_charactera {d : Nat} [zGh] (P : zP d) : zSim X_X8_character 2 P 0 (b_X8_charactera P) := by
  unfold b_X8_charactera
  refine sm_aload_n (pc := 0) (n := 0) dX8_character_0 rfl ?_
  refine sm_iload_n (pc := 1) (n := 1) dX8_character_1 rfl ?_
  refine sm_cV (pc := 2) (ci := 8) (n := 2) (mc := 0) (ms := 0) rfl (zMet_str m_X8_isPartitiona) (cr_X8_126 (X := X_X8_character) (fr := 2) (frc := 1) (pc := 2) (mc := 0) (ms := 0) rfl (by decide) dX8_character_2) ?_
  refine sm_joinJ (pc := 5) (pc' := 33) (j := 1) (fun G0 hG0 => @sbX8_charactera_33 d G0 P) (fun j33 hj33 => ?_)
  refine sm_joinJ (pc := 5) (pc' := 30) (j := 1) (fun G0 hG0 => @sbX8_charactera_30 d G0 P j33 (hj33.mv hG0 (by decide))) (fun j30 hj30 => ?_)
  refine sm_ifS_eq (pc := 5) (tgt := 30) dX8_character_5 (by decide) ?_ ?_
  · skip
    exact hj30.use
  · skip
    refine sm_aload_n (pc := 8) (n := 0) dX8_character_8 rfl ?_
    refine sm_iload_n (pc := 9) (n := 2) dX8_character_9 rfl ?_
    refine sm_cV (pc := 10) (ci := 8) (n := 2) (mc := 0) (ms := 0) rfl (zMet_str m_X8_isPartitiona) (cr_X8_126 (X := X_X8_character) (fr := 2) (frc := 1) (pc := 10) (mc := 0) (ms := 0) rfl (by decide) dX8_character_10) ?_
    refine sm_ifS_eq (pc := 13) (tgt := 30) dX8_character_13 (by decide) ?_ ?_
    · skip
      exact hj30.use
    · skip
      refine sm_aload_n (pc := 16) (n := 0) dX8_character_16 rfl ?_
      refine gf_X8_40 (pc := 17) rfl dX8_character_17 ?_
      refine gf_X8_209 (pc := 20) rfl dX8_character_20 ?_
      refine sm_iload_n (pc := 23) (n := 1) dX8_character_23 rfl ?_
      refine sm_aaloadT (pc := 24) dX8_character_24 ?_
      refine sm_iload_n (pc := 25) (n := 2) dX8_character_25 rfl ?_
      refine sm_ialoadQ (pc := 26) dX8_character_26 ?_
      refine sm_goto (pc := 27) (tgt := 33) dX8_character_27 (by decide) ?_
      exact hj33.use
noncomputable def f_X8_charactera {d : Nat} : List zV → zH d → zP d → Bool := zfn 3 b_X8_charactera
theorem m_X8_charactera {d : Nat} : zMet (d := d) X_X8_character yX8_character 2 f_X8_charactera := zmet_mk (X := X_X8_character) (by decide) rfl rfl s_X8_charactera

noncomputable def bX8_modulara_28 {d : Nat} (P : zP d) : zK d := (xpI 4294966295 (xiret P))
set_option maxRecDepth 100000 in
set_option maxHeartbeats 4000000 in
theorem sbX8_modulara_28 {d : Nat} [zGh] (P : zP d) : zSim X_X8_modular 3 P 28 (bX8_modulara_28 P) := by
  unfold bX8_modulara_28
  refine sm_sipush (pc := 28) dX8_modular_28 zc_s_m1001 ?_
  exact sm_ireturn (pc := 31) dX8_modular_31 rfl
noncomputable def b_X8_modulara {d : Nat} (P : zP d) : zK d := (xald 0 (xild 1 (xcV 24 2 0 0 (zstr f_X8_isRegularPartitiona) (xjoin (bX8_modulara_28 P) (fun j28 => (xif0S teqR rlEq rhEq rlNe rhNe j28 (xald 0 (xild 2 (xcV 24 2 0 0 (zstr f_X8_isPartitiona) (xif0S teqR rlEq rhEq rlNe rhNe j28 (xald 0 (xgfR 24 7 (xgfR 21 4 (xild 2 (xalQ 1 (xif0S teqR rlEq rhEq rlNe rhNe j28 (xald 0 (xgfR 24 7 (xgfR 21 6 (xild 1 (xaaT (xild 2 (xalQ 0 (xiret P))))))))))))))))))))))))
set_option maxRecDepth 100000 in
set_option maxHeartbeats 4000000 in
theorem s_X8_modulara {d : Nat} [zGh] (P : zP d) : zSim X_X8_modular 3 P 0 (b_X8_modulara P) := by
  unfold b_X8_modulara
  refine sm_aload_n (pc := 0) (n := 0) dX8_modular_0 rfl ?_
  refine sm_iload_n (pc := 1) (n := 1) dX8_modular_1 rfl ?_
  refine sm_cV (pc := 2) (ci := 8) (n := 2) (mc := 0) (ms := 0) rfl (zMet_str m_X8_isRegularPartitiona) (cr_X8_212 (X := X_X8_modular) (fr := 3) (frc := 2) (pc := 2) (mc := 0) (ms := 0) rfl (by decide) dX8_modular_2) ?_
  refine sm_joinJ (pc := 5) (pc' := 28) (j := 1) (fun G0 hG0 => @sbX8_modulara_28 d G0 P) (fun j28 hj28 => ?_)
  refine sm_ifS_eq (pc := 5) (tgt := 28) dX8_modular_5 (by decide) ?_ ?_
  · skip
    exact hj28.use
  · skip
    refine sm_aload_n (pc := 8) (n := 0) dX8_modular_8 rfl ?_
    refine sm_iload_n (pc := 9) (n := 2) dX8_modular_9 rfl ?_
    refine sm_cV (pc := 10) (ci := 8) (n := 2) (mc := 0) (ms := 0) rfl (zMet_str m_X8_isPartitiona) (cr_X8_126 (X := X_X8_modular) (fr := 3) (frc := 1) (pc := 10) (mc := 0) (ms := 0) rfl (by decide) dX8_modular_10) ?_
    refine sm_ifS_eq (pc := 13) (tgt := 28) dX8_modular_13 (by decide) ?_ ?_
    · skip
      exact hj28.use
    · skip
      refine sm_aload_n (pc := 16) (n := 0) dX8_modular_16 rfl ?_
      refine gf_X8_47 (pc := 17) rfl dX8_modular_17 ?_
      refine gf_X8_199 (pc := 20) rfl dX8_modular_20 ?_
      refine sm_iload_n (pc := 23) (n := 2) dX8_modular_23 rfl ?_
      refine sm_baloadQ (pc := 24) dX8_modular_24 ?_
      refine sm_ifS_ne (pc := 25) (tgt := 32) dX8_modular_25 (by decide) ?_ ?_
      · skip
        refine sm_aload_n (pc := 32) (n := 0) dX8_modular_32 rfl ?_
        refine gf_X8_47 (pc := 33) rfl dX8_modular_33 ?_
        refine gf_X8_215 (pc := 36) rfl dX8_modular_36 ?_
        refine sm_iload_n (pc := 39) (n := 1) dX8_modular_39 rfl ?_
        refine sm_aaloadT (pc := 40) dX8_modular_40 ?_
        refine sm_iload_n (pc := 41) (n := 2) dX8_modular_41 rfl ?_
        refine sm_ialoadQ (pc := 42) dX8_modular_42 ?_
        exact sm_ireturn (pc := 43) dX8_modular_43 rfl
      · skip
        exact hj28.use
noncomputable def f_X8_modulara {d : Nat} : List zV → zH d → zP d → Bool := zfn 3 b_X8_modulara
theorem m_X8_modulara {d : Nat} : zMet (d := d) X_X8_modular yX8_modular 3 f_X8_modulara := zmet_mk (X := X_X8_modular) (by decide) rfl rfl s_X8_modulara

noncomputable def bX8_projectivea_33 {d : Nat} (P : zP d) : zK d := (xiret P)
set_option maxRecDepth 100000 in
set_option maxHeartbeats 4000000 in
theorem sbX8_projectivea_33 {d : Nat} [zGh] (P : zP d) : zSim X_X8_projective 3 P 33 (bX8_projectivea_33 P) := by
  unfold bX8_projectivea_33
  exact sm_ireturn (pc := 33) dX8_projective_33 rfl
noncomputable def bX8_projectivea_30 {d : Nat} (P : zP d) (j33 : zK d) : zK d := (xpI 4294966295 j33)
set_option maxRecDepth 100000 in
set_option maxHeartbeats 4000000 in
theorem sbX8_projectivea_30 {d : Nat} [zGh] (P : zP d) (j33 : zK d) (hj33 : zSimJ 1 X_X8_projective 3 P 33 j33) : zSim X_X8_projective 3 P 30 (bX8_projectivea_30 P j33) := by
  unfold bX8_projectivea_30
  refine sm_sipush (pc := 30) dX8_projective_30 zc_s_m1001 ?_
  exact hj33.use
noncomputable def b_X8_projectivea {d : Nat} (P : zP d) : zK d := (xald 0 (xild 1 (xcV 24 2 0 0 (zstr f_X8_isRegularPartitiona) (xjoin (bX8_projectivea_33 P) (fun j33 => (xjoin (bX8_projectivea_30 P j33) (fun j30 => (xif0S teqR rlEq rhEq rlNe rhNe j30 (xald 0 (xild 2 (xcV 24 2 0 0 (zstr f_X8_isPartitiona) (xif0S teqR rlEq rhEq rlNe rhNe j30 (xald 0 (xgfR 24 7 (xgfR 21 9 (xild 1 (xaaT (xild 2 (xalQ 0 j33)))))))))))))))))))
set_option maxRecDepth 100000 in
set_option maxHeartbeats 4000000 in
theorem s_X8_projectivea {d : Nat} [zGh] (P : zP d) : zSim X_X8_projective 3 P 0 (b_X8_projectivea P) := by
  unfold b_X8_projectivea
  refine sm_aload_n (pc := 0) (n := 0) dX8_projective_0 rfl ?_
  refine sm_iload_n (pc := 1) (n := 1) dX8_projective_1 rfl ?_
  refine sm_cV (pc := 2) (ci := 8) (n := 2) (mc := 0) (ms := 0) rfl (zMet_str m_X8_isRegularPartitiona) (cr_X8_212 (X := X_X8_projective) (fr := 3) (frc := 2) (pc := 2) (mc := 0) (ms := 0) rfl (by decide) dX8_projective_2) ?_
  refine sm_joinJ (pc := 5) (pc' := 33) (j := 1) (fun G0 hG0 => @sbX8_projectivea_33 d G0 P) (fun j33 hj33 => ?_)
  refine sm_joinJ (pc := 5) (pc' := 30) (j := 1) (fun G0 hG0 => @sbX8_projectivea_30 d G0 P j33 (hj33.mv hG0 (by decide))) (fun j30 hj30 => ?_)
  refine sm_ifS_eq (pc := 5) (tgt := 30) dX8_projective_5 (by decide) ?_ ?_
  · skip
    exact hj30.use
  · skip
    refine sm_aload_n (pc := 8) (n := 0) dX8_projective_8 rfl ?_
    refine sm_iload_n (pc := 9) (n := 2) dX8_projective_9 rfl ?_
    refine sm_cV (pc := 10) (ci := 8) (n := 2) (mc := 0) (ms := 0) rfl (zMet_str m_X8_isPartitiona) (cr_X8_126 (X := X_X8_projective) (fr := 3) (frc := 1) (pc := 10) (mc := 0) (ms := 0) rfl (by decide) dX8_projective_10) ?_
    refine sm_ifS_eq (pc := 13) (tgt := 30) dX8_projective_13 (by decide) ?_ ?_
    · skip
      exact hj30.use
    · skip
      refine sm_aload_n (pc := 16) (n := 0) dX8_projective_16 rfl ?_
      refine gf_X8_47 (pc := 17) rfl dX8_projective_17 ?_
      refine gf_X8_218 (pc := 20) rfl dX8_projective_20 ?_
      refine sm_iload_n (pc := 23) (n := 1) dX8_projective_23 rfl ?_
      refine sm_aaloadT (pc := 24) dX8_projective_24 ?_
      refine sm_iload_n (pc := 25) (n := 2) dX8_projective_25 rfl ?_
      refine sm_ialoadQ (pc := 26) dX8_projective_26 ?_
      refine sm_goto (pc := 27) (tgt := 33) dX8_projective_27 (by decide) ?_
      exact hj33.use
noncomputable def f_X8_projectivea {d : Nat} : List zV → zH d → zP d → Bool := zfn 3 b_X8_projectivea
theorem m_X8_projectivea {d : Nat} : zMet (d := d) X_X8_projective yX8_projective 3 f_X8_projectivea := zmet_mk (X := X_X8_projective) (by decide) rfl rfl s_X8_projectivea

noncomputable def bX8_decompositiona_31 {d : Nat} (P : zP d) : zK d := (xiret P)
set_option maxRecDepth 100000 in
set_option maxHeartbeats 4000000 in
theorem sbX8_decompositiona_31 {d : Nat} [zGh] (P : zP d) : zSim X_X8_decomposition 3 P 31 (bX8_decompositiona_31 P) := by
  unfold bX8_decompositiona_31
  exact sm_ireturn (pc := 31) dX8_decomposition_31 rfl
noncomputable def bX8_decompositiona_30 {d : Nat} (P : zP d) (j31 : zK d) : zK d := (xpI 4294967295 j31)
set_option maxRecDepth 100000 in
set_option maxHeartbeats 4000000 in
theorem sbX8_decompositiona_30 {d : Nat} [zGh] (P : zP d) (j31 : zK d) (hj31 : zSimJ 1 X_X8_decomposition 3 P 31 j31) : zSim X_X8_decomposition 3 P 30 (bX8_decompositiona_30 P j31) := by
  unfold bX8_decompositiona_30
  refine sm_iconst (pc := 30) dX8_decomposition_30 zc_i_m1 ?_
  exact hj31.use
noncomputable def b_X8_decompositiona {d : Nat} (P : zP d) : zK d := (xald 0 (xild 1 (xcV 24 2 0 0 (zstr f_X8_isPartitiona) (xjoin (bX8_decompositiona_31 P) (fun j31 => (xjoin (bX8_decompositiona_30 P j31) (fun j30 => (xif0S teqR rlEq rhEq rlNe rhNe j30 (xald 0 (xild 2 (xcV 24 2 0 0 (zstr f_X8_isRegularPartitiona) (xif0S teqR rlEq rhEq rlNe rhNe j30 (xald 0 (xgfR 24 7 (xgfR 21 7 (xild 1 (xaaT (xild 2 (xalQ 0 j31)))))))))))))))))))
set_option maxRecDepth 100000 in
set_option maxHeartbeats 4000000 in
theorem s_X8_decompositiona {d : Nat} [zGh] (P : zP d) : zSim X_X8_decomposition 3 P 0 (b_X8_decompositiona P) := by
  unfold b_X8_decompositiona
  refine sm_aload_n (pc := 0) (n := 0) dX8_decomposition_0 rfl ?_
  refine sm_iload_n (pc := 1) (n := 1) dX8_decomposition_1 rfl ?_
  refine sm_cV (pc := 2) (ci := 8) (n := 2) (mc := 0) (ms := 0) rfl (zMet_str m_X8_isPartitiona) (cr_X8_126 (X := X_X8_decomposition) (fr := 3) (frc := 1) (pc := 2) (mc := 0) (ms := 0) rfl (by decide) dX8_decomposition_2) ?_
  refine sm_joinJ (pc := 5) (pc' := 31) (j := 1) (fun G0 hG0 => @sbX8_decompositiona_31 d G0 P) (fun j31 hj31 => ?_)
  refine sm_joinJ (pc := 5) (pc' := 30) (j := 1) (fun G0 hG0 => @sbX8_decompositiona_30 d G0 P j31 (hj31.mv hG0 (by decide))) (fun j30 hj30 => ?_)
  refine sm_ifS_eq (pc := 5) (tgt := 30) dX8_decomposition_5 (by decide) ?_ ?_
  · skip
    exact hj30.use
  · skip
    refine sm_aload_n (pc := 8) (n := 0) dX8_decomposition_8 rfl ?_
    refine sm_iload_n (pc := 9) (n := 2) dX8_decomposition_9 rfl ?_
    refine sm_cV (pc := 10) (ci := 8) (n := 2) (mc := 0) (ms := 0) rfl (zMet_str m_X8_isRegularPartitiona) (cr_X8_212 (X := X_X8_decomposition) (fr := 3) (frc := 2) (pc := 10) (mc := 0) (ms := 0) rfl (by decide) dX8_decomposition_10) ?_
    refine sm_ifS_eq (pc := 13) (tgt := 30) dX8_decomposition_13 (by decide) ?_ ?_
    · skip
      exact hj30.use
    · skip
      refine sm_aload_n (pc := 16) (n := 0) dX8_decomposition_16 rfl ?_
      refine gf_X8_47 (pc := 17) rfl dX8_decomposition_17 ?_
      refine gf_X8_221 (pc := 20) rfl dX8_decomposition_20 ?_
      refine sm_iload_n (pc := 23) (n := 1) dX8_decomposition_23 rfl ?_
      refine sm_aaloadT (pc := 24) dX8_decomposition_24 ?_
      refine sm_iload_n (pc := 25) (n := 2) dX8_decomposition_25 rfl ?_
      refine sm_ialoadQ (pc := 26) dX8_decomposition_26 ?_
      refine sm_goto (pc := 27) (tgt := 31) dX8_decomposition_27 (by decide) ?_
      exact hj31.use
noncomputable def f_X8_decompositiona {d : Nat} : List zV → zH d → zP d → Bool := zfn 3 b_X8_decompositiona
theorem m_X8_decompositiona {d : Nat} : zMet (d := d) X_X8_decomposition yX8_decomposition 3 f_X8_decompositiona := zmet_mk (X := X_X8_decomposition) (by decide) rfl rfl s_X8_decompositiona

noncomputable def bX8_cartana_31 {d : Nat} (P : zP d) : zK d := (xiret P)
set_option maxRecDepth 100000 in
set_option maxHeartbeats 4000000 in
theorem sbX8_cartana_31 {d : Nat} [zGh] (P : zP d) : zSim X_X8_cartan 3 P 31 (bX8_cartana_31 P) := by
  unfold bX8_cartana_31
  exact sm_ireturn (pc := 31) dX8_cartan_31 rfl
noncomputable def bX8_cartana_30 {d : Nat} (P : zP d) (j31 : zK d) : zK d := (xpI 4294967295 j31)
set_option maxRecDepth 100000 in
set_option maxHeartbeats 4000000 in
theorem sbX8_cartana_30 {d : Nat} [zGh] (P : zP d) (j31 : zK d) (hj31 : zSimJ 1 X_X8_cartan 3 P 31 j31) : zSim X_X8_cartan 3 P 30 (bX8_cartana_30 P j31) := by
  unfold bX8_cartana_30
  refine sm_iconst (pc := 30) dX8_cartan_30 zc_i_m1 ?_
  exact hj31.use
noncomputable def b_X8_cartana {d : Nat} (P : zP d) : zK d := (xald 0 (xild 1 (xcV 24 2 0 0 (zstr f_X8_isRegularPartitiona) (xjoin (bX8_cartana_31 P) (fun j31 => (xjoin (bX8_cartana_30 P j31) (fun j30 => (xif0S teqR rlEq rhEq rlNe rhNe j30 (xald 0 (xild 2 (xcV 24 2 0 0 (zstr f_X8_isRegularPartitiona) (xif0S teqR rlEq rhEq rlNe rhNe j30 (xald 0 (xgfR 24 7 (xgfR 21 8 (xild 1 (xaaT (xild 2 (xalQ 0 j31)))))))))))))))))))
set_option maxRecDepth 100000 in
set_option maxHeartbeats 4000000 in
theorem s_X8_cartana {d : Nat} [zGh] (P : zP d) : zSim X_X8_cartan 3 P 0 (b_X8_cartana P) := by
  unfold b_X8_cartana
  refine sm_aload_n (pc := 0) (n := 0) dX8_cartan_0 rfl ?_
  refine sm_iload_n (pc := 1) (n := 1) dX8_cartan_1 rfl ?_
  refine sm_cV (pc := 2) (ci := 8) (n := 2) (mc := 0) (ms := 0) rfl (zMet_str m_X8_isRegularPartitiona) (cr_X8_212 (X := X_X8_cartan) (fr := 3) (frc := 2) (pc := 2) (mc := 0) (ms := 0) rfl (by decide) dX8_cartan_2) ?_
  refine sm_joinJ (pc := 5) (pc' := 31) (j := 1) (fun G0 hG0 => @sbX8_cartana_31 d G0 P) (fun j31 hj31 => ?_)
  refine sm_joinJ (pc := 5) (pc' := 30) (j := 1) (fun G0 hG0 => @sbX8_cartana_30 d G0 P j31 (hj31.mv hG0 (by decide))) (fun j30 hj30 => ?_)
  refine sm_ifS_eq (pc := 5) (tgt := 30) dX8_cartan_5 (by decide) ?_ ?_
  · skip
    exact hj30.use
  · skip
    refine sm_aload_n (pc := 8) (n := 0) dX8_cartan_8 rfl ?_
    refine sm_iload_n (pc := 9) (n := 2) dX8_cartan_9 rfl ?_
    refine sm_cV (pc := 10) (ci := 8) (n := 2) (mc := 0) (ms := 0) rfl (zMet_str m_X8_isRegularPartitiona) (cr_X8_212 (X := X_X8_cartan) (fr := 3) (frc := 2) (pc := 10) (mc := 0) (ms := 0) rfl (by decide) dX8_cartan_10) ?_
    refine sm_ifS_eq (pc := 13) (tgt := 30) dX8_cartan_13 (by decide) ?_ ?_
    · skip
      exact hj30.use
    · skip
      refine sm_aload_n (pc := 16) (n := 0) dX8_cartan_16 rfl ?_
      refine gf_X8_47 (pc := 17) rfl dX8_cartan_17 ?_
      refine gf_X8_224 (pc := 20) rfl dX8_cartan_20 ?_
      refine sm_iload_n (pc := 23) (n := 1) dX8_cartan_23 rfl ?_
      refine sm_aaloadT (pc := 24) dX8_cartan_24 ?_
      refine sm_iload_n (pc := 25) (n := 2) dX8_cartan_25 rfl ?_
      refine sm_ialoadQ (pc := 26) dX8_cartan_26 ?_
      refine sm_goto (pc := 27) (tgt := 31) dX8_cartan_27 (by decide) ?_
      exact hj31.use
noncomputable def f_X8_cartana {d : Nat} : List zV → zH d → zP d → Bool := zfn 3 b_X8_cartana
theorem m_X8_cartana {d : Nat} : zMet (d := d) X_X8_cartan yX8_cartan 3 f_X8_cartana := zmet_mk (X := X_X8_cartan) (by decide) rfl rfl s_X8_cartana

noncomputable def bX8_tableaua_56 {d : Nat} (P : zP d) : zK d := (xpI 4294967295 (xiret P))
set_option maxRecDepth 100000 in
set_option maxHeartbeats 4000000 in
theorem sbX8_tableaua_56 {d : Nat} [zGh] (P : zP d) : zSim X_X8_tableau 2 P 56 (bX8_tableaua_56 P) := by
  unfold bX8_tableaua_56
  refine sm_iconst (pc := 56) dX8_tableau_56 zc_i_m1 ?_
  exact sm_ireturn (pc := 57) dX8_tableau_57 rfl
noncomputable def cX8_tableaua_58 {d : Nat} (P : zP d) : zK d := (xald 5 (xgfR 20 6 (xild 2 (xaaT (xald 5 (xgfR 20 4 (xild 3 (xalQ 0 (xild 4 (xbin zaddR (xalQ 0 (xiret P))))))))))))
set_option maxRecDepth 100000 in
set_option maxHeartbeats 4000000 in
theorem scX8_tableaua_58 {d : Nat} [zGh] (P : zP d) : zSim X_X8_tableau 2 P 58 (cX8_tableaua_58 P) := by
  unfold cX8_tableaua_58
  refine sm_aload (pc := 58) (n := 5) dX8_tableau_58 ?_
  refine gf_X8_227 (pc := 60) rfl dX8_tableau_60 ?_
  refine sm_iload_n (pc := 63) (n := 2) dX8_tableau_63 rfl ?_
  refine sm_aaloadT (pc := 64) dX8_tableau_64 ?_
  refine sm_aload (pc := 65) (n := 5) dX8_tableau_65 ?_
  refine gf_X8_230 (pc := 67) rfl dX8_tableau_67 ?_
  refine sm_iload_n (pc := 70) (n := 3) dX8_tableau_70 rfl ?_
  refine sm_ialoadQ (pc := 71) dX8_tableau_71 ?_
  refine sm_iload (pc := 72) (n := 4) dX8_tableau_72 ?_
  refine sm_iaddR (pc := 74) dX8_tableau_74 ?_
  refine sm_ialoadQ (pc := 75) dX8_tableau_75 ?_
  exact sm_ireturn (pc := 76) dX8_tableau_76 rfl
noncomputable def b_X8_tableaua {d : Nat} (P : zP d) : zK d := (xald 0 (xild 1 (xcV 24 2 0 0 (zstr f_X8_isPartitiona) (xif0S teqR rlEq rhEq rlNe rhNe (xpI 4294967295 (xiret P)) (xald 0 (xgfR 24 6 (xgfR 23 3 (xild 1 (xaaT (xast 5 (xild 3 (xpI 4294967295 (xcmpS teqR rlEq rhEq rlNe rhNe (xald 5 (xgfI 20 5 (xiret P))) (xild 2 (xjoin (bX8_tableaua_56 P) (fun j56 => (xif0S tgeR rlGe rhS rlS rhLt (xild 2 (xald 5 (xgfI 20 5 (xcmpS tgeR rlGe rhS rlS rhLt j56 (xald 5 (xild 3 (xild 4 (xcV 20 3 0 0 (zstr f_X4_hasCella) (xif0S teqR rlEq rhEq rlNe rhNe j56 (cX8_tableaua_58 P)))))))))) j56)))))))))))))))))
set_option maxRecDepth 100000 in
set_option maxHeartbeats 4000000 in
theorem s_X8_tableaua {d : Nat} [zGh] (P : zP d) : zSim X_X8_tableau 2 P 0 (b_X8_tableaua P) := by
  unfold b_X8_tableaua
  refine sm_aload_n (pc := 0) (n := 0) dX8_tableau_0 rfl ?_
  refine sm_iload_n (pc := 1) (n := 1) dX8_tableau_1 rfl ?_
  refine sm_cV (pc := 2) (ci := 8) (n := 2) (mc := 0) (ms := 0) rfl (zMet_str m_X8_isPartitiona) (cr_X8_126 (X := X_X8_tableau) (fr := 2) (frc := 1) (pc := 2) (mc := 0) (ms := 0) rfl (by decide) dX8_tableau_2) ?_
  refine sm_ifS_ne (pc := 5) (tgt := 10) dX8_tableau_5 (by decide) ?_ ?_
  · skip
    refine sm_aload_n (pc := 10) (n := 0) dX8_tableau_10 rfl ?_
    refine gf_X8_40 (pc := 11) rfl dX8_tableau_11 ?_
    refine gf_X8_129 (pc := 14) rfl dX8_tableau_14 ?_
    refine sm_iload_n (pc := 17) (n := 1) dX8_tableau_17 rfl ?_
    refine sm_aaloadT (pc := 18) dX8_tableau_18 ?_
    refine sm_astore (pc := 19) (n := 5) dX8_tableau_19 ?_
    refine sm_iload_n (pc := 21) (n := 3) dX8_tableau_21 rfl ?_
    refine sm_iconst (pc := 22) dX8_tableau_22 zc_i_m1 ?_
    refine sm_icmpS_ne (pc := 23) (tgt := 32) dX8_tableau_23 (by decide) ?_ ?_
    · skip
      refine sm_iload_n (pc := 32) (n := 2) dX8_tableau_32 rfl ?_
      refine sm_joinJ (pc := 33) (pc' := 56) (j := 1) (fun G0 hG0 => @sbX8_tableaua_56 d G0 P) (fun j56 hj56 => ?_)
      refine sm_ifS_lt (pc := 33) (tgt := 56) dX8_tableau_33 (by decide) ?_ ?_
      · skip
        exact hj56.use
      · skip
        refine sm_iload_n (pc := 36) (n := 2) dX8_tableau_36 rfl ?_
        refine sm_aload (pc := 37) (n := 5) dX8_tableau_37 ?_
        refine gf_X8_164 (pc := 39) rfl dX8_tableau_39 ?_
        refine sm_icmpS_ge (pc := 42) (tgt := 56) dX8_tableau_42 (by decide) ?_ ?_
        · skip
          exact hj56.use
        · skip
          refine sm_aload (pc := 45) (n := 5) dX8_tableau_45 ?_
          refine sm_iload_n (pc := 47) (n := 3) dX8_tableau_47 rfl ?_
          refine sm_iload (pc := 48) (n := 4) dX8_tableau_48 ?_
          refine sm_cV (pc := 50) (ci := 4) (n := 3) (mc := 0) (ms := 0) rfl (zMet_str m_X4_hasCella) (cr_X8_186 (X := X_X8_tableau) (fr := 2) (frc := 1) (pc := 50) (mc := 0) (ms := 0) rfl (by decide) dX8_tableau_50) ?_
          refine sm_ifS_ne (pc := 53) (tgt := 58) dX8_tableau_53 (by decide) ?_ ?_
          · skip
            exact scX8_tableaua_58 P
          · skip
            exact hj56.use
    · skip
      refine sm_aload (pc := 26) (n := 5) dX8_tableau_26 ?_
      refine gf_X8_164 (pc := 28) rfl dX8_tableau_28 ?_
      exact sm_ireturn (pc := 31) dX8_tableau_31 rfl
  · skip
    refine sm_iconst (pc := 8) dX8_tableau_8 zc_i_m1 ?_
    exact sm_ireturn (pc := 9) dX8_tableau_9 rfl
noncomputable def f_X8_tableaua {d : Nat} : List zV → zH d → zP d → Bool := zfn 6 b_X8_tableaua
theorem m_X8_tableaua {d : Nat} : zMet (d := d) X_X8_tableau yX8_tableau 2 f_X8_tableaua := zmet_mk (X := X_X8_tableau) (by decide) rfl rfl s_X8_tableaua

noncomputable def bX8_grama_49 {d : Nat} (P : zP d) : zK d := (xpI 4294966295 (xiret P))
set_option maxRecDepth 100000 in
set_option maxHeartbeats 4000000 in
theorem sbX8_grama_49 {d : Nat} [zGh] (P : zP d) : zSim X_X8_gram 2 P 49 (bX8_grama_49 P) := by
  unfold bX8_grama_49
  refine sm_sipush (pc := 49) dX8_gram_49 zc_s_m1001 ?_
  exact sm_ireturn (pc := 52) dX8_gram_52 rfl
noncomputable def cX8_grama_58 {d : Nat} (P : zP d) : zK d := (xild 2 (xaaT (xild 3 (xalQ 0 (xiret P)))))
set_option maxRecDepth 100000 in
set_option maxHeartbeats 4000000 in
theorem scX8_grama_58 {d : Nat} [zGh] (P : zP d) : zSim X_X8_gram 2 P 58 (cX8_grama_58 P) := by
  unfold cX8_grama_58
  refine sm_iload_n (pc := 58) (n := 2) dX8_gram_58 rfl ?_
  refine sm_aaloadT (pc := 59) dX8_gram_59 ?_
  refine sm_iload_n (pc := 60) (n := 3) dX8_gram_60 rfl ?_
  refine sm_ialoadQ (pc := 61) dX8_gram_61 ?_
  exact sm_ireturn (pc := 62) dX8_gram_62 rfl
noncomputable def b_X8_grama {d : Nat} (P : zP d) : zK d := (xald 0 (xild 1 (xcV 24 2 0 0 (zstr f_X8_isPartitiona) (xif0S teqR rlEq rhEq rlNe rhNe (xpI 4294966295 (xiret P)) (xald 0 (xgfR 24 6 (xgfR 23 3 (xild 1 (xaaT (xast 4 (xild 2 (xjoin (bX8_grama_49 P) (fun j49 => (xif0S tgeR rlGe rhS rlS rhLt (xild 2 (xald 4 (xgfI 20 5 (xcmpS tgeR rlGe rhS rlS rhLt j49 (xild 3 (xif0S tgeR rlGe rhS rlS rhLt (xild 3 (xald 4 (xgfI 20 5 (xcmpS tgeR rlGe rhS rlS rhLt j49 (xald 4 (xgfR 20 7 (cX8_grama_58 P))))))) j49)))))) j49))))))))))))))
set_option maxRecDepth 100000 in
set_option maxHeartbeats 4000000 in
theorem s_X8_grama {d : Nat} [zGh] (P : zP d) : zSim X_X8_gram 2 P 0 (b_X8_grama P) := by
  unfold b_X8_grama
  refine sm_aload_n (pc := 0) (n := 0) dX8_gram_0 rfl ?_
  refine sm_iload_n (pc := 1) (n := 1) dX8_gram_1 rfl ?_
  refine sm_cV (pc := 2) (ci := 8) (n := 2) (mc := 0) (ms := 0) rfl (zMet_str m_X8_isPartitiona) (cr_X8_126 (X := X_X8_gram) (fr := 2) (frc := 1) (pc := 2) (mc := 0) (ms := 0) rfl (by decide) dX8_gram_2) ?_
  refine sm_ifS_ne (pc := 5) (tgt := 12) dX8_gram_5 (by decide) ?_ ?_
  · skip
    refine sm_aload_n (pc := 12) (n := 0) dX8_gram_12 rfl ?_
    refine gf_X8_40 (pc := 13) rfl dX8_gram_13 ?_
    refine gf_X8_129 (pc := 16) rfl dX8_gram_16 ?_
    refine sm_iload_n (pc := 19) (n := 1) dX8_gram_19 rfl ?_
    refine sm_aaloadT (pc := 20) dX8_gram_20 ?_
    refine sm_astore (pc := 21) (n := 4) dX8_gram_21 ?_
    refine sm_iload_n (pc := 23) (n := 2) dX8_gram_23 rfl ?_
    refine sm_joinJ (pc := 24) (pc' := 49) (j := 1) (fun G0 hG0 => @sbX8_grama_49 d G0 P) (fun j49 hj49 => ?_)
    refine sm_ifS_lt (pc := 24) (tgt := 49) dX8_gram_24 (by decide) ?_ ?_
    · skip
      exact hj49.use
    · skip
      refine sm_iload_n (pc := 27) (n := 2) dX8_gram_27 rfl ?_
      refine sm_aload (pc := 28) (n := 4) dX8_gram_28 ?_
      refine gf_X8_164 (pc := 30) rfl dX8_gram_30 ?_
      refine sm_icmpS_ge (pc := 33) (tgt := 49) dX8_gram_33 (by decide) ?_ ?_
      · skip
        exact hj49.use
      · skip
        refine sm_iload_n (pc := 36) (n := 3) dX8_gram_36 rfl ?_
        refine sm_ifS_lt (pc := 37) (tgt := 49) dX8_gram_37 (by decide) ?_ ?_
        · skip
          exact hj49.use
        · skip
          refine sm_iload_n (pc := 40) (n := 3) dX8_gram_40 rfl ?_
          refine sm_aload (pc := 41) (n := 4) dX8_gram_41 ?_
          refine gf_X8_164 (pc := 43) rfl dX8_gram_43 ?_
          refine sm_icmpS_lt (pc := 46) (tgt := 53) dX8_gram_46 (by decide) ?_ ?_
          · skip
            refine sm_aload (pc := 53) (n := 4) dX8_gram_53 ?_
            refine gf_X8_233 (pc := 55) rfl dX8_gram_55 ?_
            exact scX8_grama_58 P
          · skip
            exact hj49.use
  · skip
    refine sm_sipush (pc := 8) dX8_gram_8 zc_s_m1001 ?_
    exact sm_ireturn (pc := 11) dX8_gram_11 rfl
noncomputable def f_X8_grama {d : Nat} : List zV → zH d → zP d → Bool := zfn 5 b_X8_grama
theorem m_X8_grama {d : Nat} : zMet (d := d) X_X8_gram yX8_gram 2 f_X8_grama := zmet_mk (X := X_X8_gram) (by decide) rfl rfl s_X8_grama

noncomputable def bX8_blocka_30 {d : Nat} (P : zP d) : zK d := (xpI 4294967295 (xiret P))
set_option maxRecDepth 100000 in
set_option maxHeartbeats 4000000 in
theorem sbX8_blocka_30 {d : Nat} [zGh] (P : zP d) : zSim X_X8_block 1 P 30 (bX8_blocka_30 P) := by
  unfold bX8_blocka_30
  refine sm_iconst (pc := 30) dX8_block_30 zc_i_m1 ?_
  exact sm_ireturn (pc := 31) dX8_block_31 rfl
noncomputable def bX8_blocka_122 {d : Nat} (P : zP d) : zK d := (xpI 4294967295 (xiret P))
set_option maxRecDepth 100000 in
set_option maxHeartbeats 4000000 in
theorem sbX8_blocka_122 {d : Nat} [zGh] (P : zP d) : zSim X_X8_block 1 P 122 (bX8_blocka_122 P) := by
  unfold bX8_blocka_122
  refine sm_iconst (pc := 122) dX8_block_122 zc_i_m1 ?_
  exact sm_ireturn (pc := 123) dX8_block_123 rfl
noncomputable def bX8_blocka_72 {d : Nat} (P : zP d) : zK d := (xald 3 (xgfR 16 5 (xild 1 (xalQ 0 (xiret P)))))
set_option maxRecDepth 100000 in
set_option maxHeartbeats 4000000 in
theorem sbX8_blocka_72 {d : Nat} [zGh] (P : zP d) : zSim X_X8_block 1 P 72 (bX8_blocka_72 P) := by
  unfold bX8_blocka_72
  refine sm_aload_n (pc := 72) (n := 3) dX8_block_72 rfl ?_
  refine gf_X8_237 (pc := 73) rfl dX8_block_73 ?_
  refine sm_iload_n (pc := 76) (n := 1) dX8_block_76 rfl ?_
  refine sm_ialoadQ (pc := 77) dX8_block_77 ?_
  exact sm_ireturn (pc := 78) dX8_block_78 rfl
noncomputable def bX8_blocka_79 {d : Nat} (P : zP d) : zK d := (xald 3 (xgfR 16 6 (xild 1 (xalQ 0 (xiret P)))))
set_option maxRecDepth 100000 in
set_option maxHeartbeats 4000000 in
theorem sbX8_blocka_79 {d : Nat} [zGh] (P : zP d) : zSim X_X8_block 1 P 79 (bX8_blocka_79 P) := by
  unfold bX8_blocka_79
  refine sm_aload_n (pc := 79) (n := 3) dX8_block_79 rfl ?_
  refine gf_X8_240 (pc := 80) rfl dX8_block_80 ?_
  refine sm_iload_n (pc := 83) (n := 1) dX8_block_83 rfl ?_
  refine sm_ialoadQ (pc := 84) dX8_block_84 ?_
  exact sm_ireturn (pc := 85) dX8_block_85 rfl
noncomputable def bX8_blocka_86 {d : Nat} (P : zP d) : zK d := (xald 3 (xgfR 16 0 (xald 3 (xgfR 16 4 (xild 1 (xalQ 0 (xalQ 0 (xiret P))))))))
set_option maxRecDepth 100000 in
set_option maxHeartbeats 4000000 in
theorem sbX8_blocka_86 {d : Nat} [zGh] (P : zP d) : zSim X_X8_block 1 P 86 (bX8_blocka_86 P) := by
  unfold bX8_blocka_86
  refine sm_aload_n (pc := 86) (n := 3) dX8_block_86 rfl ?_
  refine gf_X8_156 (pc := 87) rfl dX8_block_87 ?_
  refine sm_aload_n (pc := 90) (n := 3) dX8_block_90 rfl ?_
  refine gf_X8_243 (pc := 91) rfl dX8_block_91 ?_
  refine sm_iload_n (pc := 94) (n := 1) dX8_block_94 rfl ?_
  refine sm_ialoadQ (pc := 95) dX8_block_95 ?_
  refine sm_ialoadQ (pc := 96) dX8_block_96 ?_
  exact sm_ireturn (pc := 97) dX8_block_97 rfl
noncomputable def bX8_blocka_98 {d : Nat} (P : zP d) : zK d := (xald 3 (xgfR 16 7 (xild 1 (xalQ 0 (xiret P)))))
set_option maxRecDepth 100000 in
set_option maxHeartbeats 4000000 in
theorem sbX8_blocka_98 {d : Nat} [zGh] (P : zP d) : zSim X_X8_block 1 P 98 (bX8_blocka_98 P) := by
  unfold bX8_blocka_98
  refine sm_aload_n (pc := 98) (n := 3) dX8_block_98 rfl ?_
  refine gf_X8_246 (pc := 99) rfl dX8_block_99 ?_
  refine sm_iload_n (pc := 102) (n := 1) dX8_block_102 rfl ?_
  refine sm_ialoadQ (pc := 103) dX8_block_103 ?_
  exact sm_ireturn (pc := 104) dX8_block_104 rfl
noncomputable def bX8_blocka_105 {d : Nat} (P : zP d) : zK d := (xald 3 (xgfR 16 4 (xild 1 (xalQ 0 (xiret P)))))
set_option maxRecDepth 100000 in
set_option maxHeartbeats 4000000 in
theorem sbX8_blocka_105 {d : Nat} [zGh] (P : zP d) : zSim X_X8_block 1 P 105 (bX8_blocka_105 P) := by
  unfold bX8_blocka_105
  refine sm_aload_n (pc := 105) (n := 3) dX8_block_105 rfl ?_
  refine gf_X8_243 (pc := 106) rfl dX8_block_106 ?_
  refine sm_iload_n (pc := 109) (n := 1) dX8_block_109 rfl ?_
  refine sm_ialoadQ (pc := 110) dX8_block_110 ?_
  exact sm_ireturn (pc := 111) dX8_block_111 rfl
noncomputable def bX8_blocka_112 {d : Nat} (P : zP d) : zK d := (xald 0 (xgfR 24 7 (xgfR 21 11 (xild 1 (xalQ 0 (xiret P))))))
set_option maxRecDepth 100000 in
set_option maxHeartbeats 4000000 in
theorem sbX8_blocka_112 {d : Nat} [zGh] (P : zP d) : zSim X_X8_block 1 P 112 (bX8_blocka_112 P) := by
  unfold bX8_blocka_112
  refine sm_aload_n (pc := 112) (n := 0) dX8_block_112 rfl ?_
  refine gf_X8_47 (pc := 113) rfl dX8_block_113 ?_
  refine gf_X8_249 (pc := 116) rfl dX8_block_116 ?_
  refine sm_iload_n (pc := 119) (n := 1) dX8_block_119 rfl ?_
  refine sm_ialoadQ (pc := 120) dX8_block_120 ?_
  exact sm_ireturn (pc := 121) dX8_block_121 rfl
noncomputable def b_X8_blocka {d : Nat} (P : zP d) : zK d := (xald 0 (xgfR 24 7 (xgfR 21 10 (xast 3 (xild 2 (xpI 4294967295 (xcmpS teqR rlEq rhEq rlNe rhNe (xald 3 (xgfI 16 3 (xiret P))) (xild 1 (xjoin (bX8_blocka_30 P) (fun j30 => (xif0S tgeR rlGe rhS rlS rhLt (xild 1 (xald 3 (xgfI 16 3 (xcmpS tgeR rlGe rhS rlS rhLt j30 (xild 2 (xtswR 5 [(bX8_blocka_72 P), (bX8_blocka_79 P), (bX8_blocka_86 P), (bX8_blocka_98 P), (bX8_blocka_105 P), (bX8_blocka_112 P)] (bX8_blocka_122 P))))))) j30)))))))))))
set_option maxRecDepth 100000 in
set_option maxHeartbeats 4000000 in
theorem s_X8_blocka {d : Nat} [zGh] (P : zP d) : zSim X_X8_block 1 P 0 (b_X8_blocka P) := by
  unfold b_X8_blocka
  refine sm_aload_n (pc := 0) (n := 0) dX8_block_0 rfl ?_
  refine gf_X8_47 (pc := 1) rfl dX8_block_1 ?_
  refine gf_X8_152 (pc := 4) rfl dX8_block_4 ?_
  refine sm_astore_n (pc := 7) (n := 3) dX8_block_7 rfl ?_
  refine sm_iload_n (pc := 8) (n := 2) dX8_block_8 rfl ?_
  refine sm_iconst (pc := 9) dX8_block_9 zc_i_m1 ?_
  refine sm_icmpS_ne (pc := 10) (tgt := 18) dX8_block_10 (by decide) ?_ ?_
  · skip
    refine sm_iload_n (pc := 18) (n := 1) dX8_block_18 rfl ?_
    refine sm_joinJ (pc := 19) (pc' := 30) (j := 1) (fun G0 hG0 => @sbX8_blocka_30 d G0 P) (fun j30 hj30 => ?_)
    refine sm_ifS_lt (pc := 19) (tgt := 30) dX8_block_19 (by decide) ?_ ?_
    · skip
      exact hj30.use
    · skip
      refine sm_iload_n (pc := 22) (n := 1) dX8_block_22 rfl ?_
      refine sm_aload_n (pc := 23) (n := 3) dX8_block_23 rfl ?_
      refine gf_X8_236 (pc := 24) rfl dX8_block_24 ?_
      refine sm_icmpS_lt (pc := 27) (tgt := 32) dX8_block_27 (by decide) ?_ ?_
      · skip
        refine sm_iload_n (pc := 32) (n := 2) dX8_block_32 rfl ?_
        exact sm_tswR (pc := 33) (n := 5) (tdf := 122) [72, 79, 86, 98, 105, 112] rfl (by decide) dX8_block_33 rfl (by decide +kernel) (by decide) (sbX8_blocka_122 P) ⟨sbX8_blocka_72 P, sbX8_blocka_79 P, sbX8_blocka_86 P, sbX8_blocka_98 P, sbX8_blocka_105 P, sbX8_blocka_112 P, trivial⟩
      · skip
        exact hj30.use
  · skip
    refine sm_aload_n (pc := 13) (n := 3) dX8_block_13 rfl ?_
    refine gf_X8_236 (pc := 14) rfl dX8_block_14 ?_
    exact sm_ireturn (pc := 17) dX8_block_17 rfl
noncomputable def f_X8_blocka {d : Nat} : List zV → zH d → zP d → Bool := zfn 4 b_X8_blocka
theorem m_X8_blocka {d : Nat} : zMet (d := d) X_X8_block yX8_block 1 f_X8_blocka := zmet_mk (X := X_X8_block) (by decide) rfl rfl s_X8_blocka

noncomputable def bX8_valuea_29 {d : Nat} (P : zP d) : zK d := (xlret P)
set_option maxRecDepth 100000 in
set_option maxHeartbeats 4000000 in
theorem sbX8_valuea_29 {d : Nat} [zGh] (P : zP d) : zSim X_X8_value 2 P 29 (bX8_valuea_29 P) := by
  unfold bX8_valuea_29
  exact sm_lreturn (pc := 29) dX8_value_29 rfl
noncomputable def bX8_valuea_26 {d : Nat} (P : zP d) (j29 : zK d) : zK d := (xpL 9223372036854775808 j29)
set_option maxRecDepth 100000 in
set_option maxHeartbeats 4000000 in
theorem sbX8_valuea_26 {d : Nat} [zGh] (P : zP d) (j29 : zK d) (hj29 : zSimJ 1 X_X8_value 2 P 29 j29) : zSim X_X8_value 2 P 26 (bX8_valuea_26 P j29) := by
  unfold bX8_valuea_26
  refine sm_ldc2 (pc := 26) dX8_value_26 wd_850 zc_cl_m9223372036854775808 ?_
  exact hj29.use
noncomputable def b_X8_valuea {d : Nat} (P : zP d) : zK d := (xild 1 (xcS 1 0 0 (zstr f_X8_isSlota) (xjoin (bX8_valuea_29 P) (fun j29 => (xjoin (bX8_valuea_26 P j29) (fun j26 => (xif0S teqR rlEq rhEq rlNe rhNe j26 (xald 0 (xild 2 (xcV 24 2 0 0 (zstr f_X8_isPartitiona) (xif0S teqR rlEq rhEq rlNe rhNe j26 (xald 0 (xgfR 24 2 (xild 1 (xaaT (xild 2 (xlal j29)))))))))))))))))
set_option maxRecDepth 100000 in
set_option maxHeartbeats 4000000 in
theorem s_X8_valuea {d : Nat} [zGh] (P : zP d) : zSim X_X8_value 2 P 0 (b_X8_valuea P) := by
  unfold b_X8_valuea
  refine sm_iload_n (pc := 0) (n := 1) dX8_value_0 rfl ?_
  refine sm_cS (pc := 1) (n := 1) (mc := 0) (ms := 0) (zMet_str m_X8_isSlota) (cr_X8_88 (X := X_X8_value) (fr := 2) (frc := 1) (pc := 1) (mc := 0) (ms := 0) rfl (by decide) dX8_value_1) ?_
  refine sm_joinJ (pc := 4) (pc' := 29) (j := 1) (fun G0 hG0 => @sbX8_valuea_29 d G0 P) (fun j29 hj29 => ?_)
  refine sm_joinJ (pc := 4) (pc' := 26) (j := 1) (fun G0 hG0 => @sbX8_valuea_26 d G0 P j29 (hj29.mv hG0 (by decide))) (fun j26 hj26 => ?_)
  refine sm_ifS_eq (pc := 4) (tgt := 26) dX8_value_4 (by decide) ?_ ?_
  · skip
    exact hj26.use
  · skip
    refine sm_aload_n (pc := 7) (n := 0) dX8_value_7 rfl ?_
    refine sm_iload_n (pc := 8) (n := 2) dX8_value_8 rfl ?_
    refine sm_cV (pc := 9) (ci := 8) (n := 2) (mc := 0) (ms := 0) rfl (zMet_str m_X8_isPartitiona) (cr_X8_126 (X := X_X8_value) (fr := 2) (frc := 1) (pc := 9) (mc := 0) (ms := 0) rfl (by decide) dX8_value_9) ?_
    refine sm_ifS_eq (pc := 12) (tgt := 26) dX8_value_12 (by decide) ?_ ?_
    · skip
      exact hj26.use
    · skip
      refine sm_aload_n (pc := 15) (n := 0) dX8_value_15 rfl ?_
      refine gf_X8_23 (pc := 16) rfl dX8_value_16 ?_
      refine sm_iload_n (pc := 19) (n := 1) dX8_value_19 rfl ?_
      refine sm_aaloadT (pc := 20) dX8_value_20 ?_
      refine sm_iload_n (pc := 21) (n := 2) dX8_value_21 rfl ?_
      refine sm_laload (pc := 22) dX8_value_22 ?_
      refine sm_goto (pc := 23) (tgt := 29) dX8_value_23 (by decide) ?_
      exact hj29.use
noncomputable def f_X8_valuea {d : Nat} : List zV → zH d → zP d → Bool := zfn 3 b_X8_valuea
theorem m_X8_valuea {d : Nat} : zMet (d := d) X_X8_value yX8_value 2 f_X8_valuea := zmet_mk (X := X_X8_value) (by decide) rfl rfl s_X8_valuea

noncomputable def bX8_partsa_24 {d : Nat} (P : zP d) : zK d := (xpL 9223372036854775808 (xlret P))
set_option maxRecDepth 100000 in
set_option maxHeartbeats 4000000 in
theorem sbX8_partsa_24 {d : Nat} [zGh] (P : zP d) : zSim X_X8_parts 2 P 24 (bX8_partsa_24 P) := by
  unfold bX8_partsa_24
  refine sm_ldc2 (pc := 24) dX8_parts_24 wd_850 zc_cl_m9223372036854775808 ?_
  exact sm_lreturn (pc := 27) dX8_parts_27 rfl
noncomputable def bX8_partsa_133 {d : Nat} (P : zP d) : zK d := (xlret P)
set_option maxRecDepth 100000 in
set_option maxHeartbeats 4000000 in
theorem sbX8_partsa_133 {d : Nat} [zGh] (P : zP d) : zSim X_X8_parts 2 P 133 (bX8_partsa_133 P) := by
  unfold bX8_partsa_133
  exact sm_lreturn (pc := 133) dX8_parts_133 rfl
noncomputable def cX8_partsa_122 {d : Nat} (P : zP d) (j133 : zK d) : zK d := (xald 0 (xgfR 24 6 (xgfI 23 2 (xi2lR (xlld 7 (xbinjN zdivj j133))))))
set_option maxRecDepth 100000 in
set_option maxHeartbeats 4000000 in
theorem scX8_partsa_122 {d : Nat} [zGh] (P : zP d) (j133 : zK d) (hj133 : zSimJ 1 X_X8_parts 2 P 133 j133) : zSim X_X8_parts 2 P 122 (cX8_partsa_122 P j133) := by
  unfold cX8_partsa_122
  refine sm_aload_n (pc := 122) (n := 0) dX8_parts_122 rfl ?_
  refine gf_X8_40 (pc := 123) rfl dX8_parts_123 ?_
  refine gf_X8_266 (pc := 126) rfl dX8_parts_126 ?_
  refine sm_i2lR (pc := 129) dX8_parts_129 ?_
  refine sm_lload (pc := 130) (n := 7) dX8_parts_130 ?_
  refine sm_ldiv (pc := 132) dX8_parts_132 ?_
  exact hj133.use
noncomputable def cX8_partsa_114 {d : Nat} (P : zP d) (j133 : zK d) : zK d := (xlld 5 (xlld 7 (xbinjN zdivj j133)))
set_option maxRecDepth 100000 in
set_option maxHeartbeats 4000000 in
theorem scX8_partsa_114 {d : Nat} [zGh] (P : zP d) (j133 : zK d) (hj133 : zSimJ 1 X_X8_parts 2 P 133 j133) : zSim X_X8_parts 2 P 114 (cX8_partsa_114 P j133) := by
  unfold cX8_partsa_114
  refine sm_lload (pc := 114) (n := 5) dX8_parts_114 ?_
  refine sm_lload (pc := 116) (n := 7) dX8_parts_116 ?_
  refine sm_ldiv (pc := 118) dX8_parts_118 ?_
  refine sm_goto (pc := 119) (tgt := 133) dX8_parts_119 (by decide) ?_
  exact hj133.use
noncomputable def bX8_partsa_65 {d : Nat} (P : zP d) : zK d := (xald 0 (xald 0 (xgfR 24 2 (xild 1 (xaaT (xild 2 (xild 4 (xcV 24 4 0 0 (zstr f_X8_timesFactorial) (xlst 5 (xlld 5 (xabsj (xald 0 (xgfR 24 6 (xgfI 23 2 (xi2lR (xcS 2 0 0 (zstr f_X8_greatestDivisor) (xlst 7 (xlld 7 (xpL 0 (xlcmpR (xif0S teqR rlEq rhEq rlNe rhNe (xpL 9223372036854775808 (xlret P)) (xild 3 (xpI 2 (xjoin (bX8_partsa_133 P) (fun j133 => (xcmpS tgeR rlGe rhS rlS rhLt (cX8_partsa_122 P j133) (cX8_partsa_114 P j133)))))))))))))))))))))))))))
set_option maxRecDepth 100000 in
set_option maxHeartbeats 4000000 in
theorem sbX8_partsa_65 {d : Nat} [zGh] (P : zP d) : zSim X_X8_parts 2 P 65 (bX8_partsa_65 P) := by
  unfold bX8_partsa_65
  refine sm_aload_n (pc := 65) (n := 0) dX8_parts_65 rfl ?_
  refine sm_aload_n (pc := 66) (n := 0) dX8_parts_66 rfl ?_
  refine gf_X8_23 (pc := 67) rfl dX8_parts_67 ?_
  refine sm_iload_n (pc := 70) (n := 1) dX8_parts_70 rfl ?_
  refine sm_aaloadT (pc := 71) dX8_parts_71 ?_
  refine sm_iload_n (pc := 72) (n := 2) dX8_parts_72 rfl ?_
  refine sm_iload (pc := 73) (n := 4) dX8_parts_73 ?_
  refine sm_cV (pc := 75) (ci := 8) (n := 4) (mc := 0) (ms := 0) rfl (zMet_str m_X8_timesFactorial) (cr_X8_256 (X := X_X8_parts) (fr := 2) (frc := 1) (pc := 75) (mc := 0) (ms := 0) rfl (by decide) dX8_parts_75) ?_
  refine sm_lstore (pc := 78) (n := 5) dX8_parts_78 ?_
  refine sm_lload (pc := 80) (n := 5) dX8_parts_80 ?_
  refine sm_mabsj (pc := 82) wd_859 wd_763 wd_6 wd_764 (by decide) dX8_parts_82 ?_
  refine sm_aload_n (pc := 85) (n := 0) dX8_parts_85 rfl ?_
  refine gf_X8_40 (pc := 86) rfl dX8_parts_86 ?_
  refine gf_X8_266 (pc := 89) rfl dX8_parts_89 ?_
  refine sm_i2lR (pc := 92) dX8_parts_92 ?_
  refine sm_cS (pc := 93) (n := 2) (mc := 0) (ms := 0) (zMet_str m_X8_greatestDivisor) (cr_X8_269 (X := X_X8_parts) (fr := 2) (frc := 1) (pc := 93) (mc := 0) (ms := 0) rfl (by decide) dX8_parts_93) ?_
  refine sm_lstore (pc := 96) (n := 7) dX8_parts_96 ?_
  refine sm_lload (pc := 98) (n := 7) dX8_parts_98 ?_
  refine sm_lconst (pc := 100) dX8_parts_100 zc_l_0 ?_
  refine sm_lcmpR (pc := 101) dX8_parts_101 ?_
  refine sm_ifS_ne (pc := 102) (tgt := 109) dX8_parts_102 (by decide) ?_ ?_
  · skip
    refine sm_iload_n (pc := 109) (n := 3) dX8_parts_109 rfl ?_
    refine sm_iconst (pc := 110) dX8_parts_110 zc_i_2 ?_
    refine sm_joinJ (pc := 111) (pc' := 133) (j := 1) (fun G0 hG0 => @sbX8_partsa_133 d G0 P) (fun j133 hj133 => ?_)
    refine sm_icmpS_ge (pc := 111) (tgt := 122) dX8_parts_111 (by decide) ?_ ?_
    · skip
      exact scX8_partsa_122 P j133 hj133
    · skip
      exact scX8_partsa_114 P j133 hj133
  · skip
    refine sm_ldc2 (pc := 105) dX8_parts_105 wd_850 zc_cl_m9223372036854775808 ?_
    exact sm_lreturn (pc := 108) dX8_parts_108 rfl
noncomputable def bX8_partsa_43 {d : Nat} (P : zP d) : zK d := (xist 4 (xild 4 (xjoin (bX8_partsa_65 P) (fun j65 => (xif0S teqR rlEq rhEq rlNe rhNe j65 (xald 0 (xgfR 24 7 (xild 2 (xcV 21 2 0 0 (zstr f_X5_isRegular) (xif0S teqR rlEq rhEq rlNe rhNe (xpL 9223372036854775808 (xlret P)) j65))))))))))
set_option maxRecDepth 100000 in
set_option maxHeartbeats 4000000 in
theorem sbX8_partsa_43 {d : Nat} [zGh] (P : zP d) : zSim X_X8_parts 2 P 43 (bX8_partsa_43 P) := by
  unfold bX8_partsa_43
  refine sm_istore (pc := 43) (n := 4) dX8_parts_43 ?_
  refine sm_iload (pc := 45) (n := 4) dX8_parts_45 ?_
  refine sm_joinJ (pc := 47) (pc' := 65) (j := 1) (fun G0 hG0 => @sbX8_partsa_65 d G0 P) (fun j65 hj65 => ?_)
  refine sm_ifS_eq (pc := 47) (tgt := 65) dX8_parts_47 (by decide) ?_ ?_
  · skip
    exact hj65.use
  · skip
    refine sm_aload_n (pc := 50) (n := 0) dX8_parts_50 rfl ?_
    refine gf_X8_47 (pc := 51) rfl dX8_parts_51 ?_
    refine sm_iload_n (pc := 54) (n := 2) dX8_parts_54 rfl ?_
    refine sm_cV (pc := 55) (ci := 5) (n := 2) (mc := 0) (ms := 0) rfl (zMet_str m_X5_isRegular) (cr_X8_145 (X := X_X8_parts) (fr := 2) (frc := 1) (pc := 55) (mc := 0) (ms := 0) rfl (by decide) dX8_parts_55) ?_
    refine sm_ifS_ne (pc := 58) (tgt := 65) dX8_parts_58 (by decide) ?_ ?_
    · skip
      exact hj65.use
    · skip
      refine sm_ldc2 (pc := 61) dX8_parts_61 wd_850 zc_cl_m9223372036854775808 ?_
      exact sm_lreturn (pc := 64) dX8_parts_64 rfl
noncomputable def bX8_partsa_38 {d : Nat} (P : zP d) (j43 : zK d) : zK d := (xpI 1 j43)
set_option maxRecDepth 100000 in
set_option maxHeartbeats 4000000 in
theorem sbX8_partsa_38 {d : Nat} [zGh] (P : zP d) (j43 : zK d) (hj43 : zSimJ 1 X_X8_parts 2 P 43 j43) : zSim X_X8_parts 2 P 38 (bX8_partsa_38 P j43) := by
  unfold bX8_partsa_38
  refine sm_iconst (pc := 38) dX8_parts_38 zc_i_1 ?_
  refine sm_goto (pc := 39) (tgt := 43) dX8_parts_39 (by decide) ?_
  exact hj43.use
noncomputable def b_X8_partsa {d : Nat} (P : zP d) : zK d := (xild 1 (xcS 1 0 0 (zstr f_X8_isSlota) (xjoin (bX8_partsa_24 P) (fun j24 => (xif0S teqR rlEq rhEq rlNe rhNe j24 (xald 0 (xild 2 (xcV 24 2 0 0 (zstr f_X8_isPartitiona) (xif0S teqR rlEq rhEq rlNe rhNe j24 (xild 3 (xif0S tgeR rlGe rhS rlS rhLt (xild 3 (xpI 3 (xcmpS tleR rlS rhLe rlGt rhS (xild 3 (xpI 1 (xjoin (bX8_partsa_43 P) (fun j43 => (xjoin (bX8_partsa_38 P j43) (fun j38 => (xcmpS teqR rlEq rhEq rlNe rhNe j38 (xild 3 (xpI 3 (xcmpS teqR rlEq rhEq rlNe rhNe j38 (xpI 0 j43))))))))))) j24))) j24)))))))))))
set_option maxRecDepth 100000 in
set_option maxHeartbeats 4000000 in
theorem s_X8_partsa {d : Nat} [zGh] (P : zP d) : zSim X_X8_parts 2 P 0 (b_X8_partsa P) := by
  unfold b_X8_partsa
  refine sm_iload_n (pc := 0) (n := 1) dX8_parts_0 rfl ?_
  refine sm_cS (pc := 1) (n := 1) (mc := 0) (ms := 0) (zMet_str m_X8_isSlota) (cr_X8_88 (X := X_X8_parts) (fr := 2) (frc := 1) (pc := 1) (mc := 0) (ms := 0) rfl (by decide) dX8_parts_1) ?_
  refine sm_joinJ (pc := 4) (pc' := 24) (j := 1) (fun G0 hG0 => @sbX8_partsa_24 d G0 P) (fun j24 hj24 => ?_)
  refine sm_ifS_eq (pc := 4) (tgt := 24) dX8_parts_4 (by decide) ?_ ?_
  · skip
    exact hj24.use
  · skip
    refine sm_aload_n (pc := 7) (n := 0) dX8_parts_7 rfl ?_
    refine sm_iload_n (pc := 8) (n := 2) dX8_parts_8 rfl ?_
    refine sm_cV (pc := 9) (ci := 8) (n := 2) (mc := 0) (ms := 0) rfl (zMet_str m_X8_isPartitiona) (cr_X8_126 (X := X_X8_parts) (fr := 2) (frc := 1) (pc := 9) (mc := 0) (ms := 0) rfl (by decide) dX8_parts_9) ?_
    refine sm_ifS_eq (pc := 12) (tgt := 24) dX8_parts_12 (by decide) ?_ ?_
    · skip
      exact hj24.use
    · skip
      refine sm_iload_n (pc := 15) (n := 3) dX8_parts_15 rfl ?_
      refine sm_ifS_lt (pc := 16) (tgt := 24) dX8_parts_16 (by decide) ?_ ?_
      · skip
        exact hj24.use
      · skip
        refine sm_iload_n (pc := 19) (n := 3) dX8_parts_19 rfl ?_
        refine sm_iconst (pc := 20) dX8_parts_20 zc_i_3 ?_
        refine sm_icmpS_le (pc := 21) (tgt := 28) dX8_parts_21 (by decide) ?_ ?_
        · skip
          refine sm_iload_n (pc := 28) (n := 3) dX8_parts_28 rfl ?_
          refine sm_iconst (pc := 29) dX8_parts_29 zc_i_1 ?_
          refine sm_joinJ (pc := 30) (pc' := 43) (j := 1) (fun G0 hG0 => @sbX8_partsa_43 d G0 P) (fun j43 hj43 => ?_)
          refine sm_joinJ (pc := 30) (pc' := 38) (j := 1) (fun G0 hG0 => @sbX8_partsa_38 d G0 P j43 (hj43.mv hG0 (by decide))) (fun j38 hj38 => ?_)
          refine sm_icmpS_eq (pc := 30) (tgt := 38) dX8_parts_30 (by decide) ?_ ?_
          · skip
            exact hj38.use
          · skip
            refine sm_iload_n (pc := 33) (n := 3) dX8_parts_33 rfl ?_
            refine sm_iconst (pc := 34) dX8_parts_34 zc_i_3 ?_
            refine sm_icmpS_ne (pc := 35) (tgt := 42) dX8_parts_35 (by decide) ?_ ?_
            · skip
              refine sm_iconst (pc := 42) dX8_parts_42 zc_i_0 ?_
              exact hj43.use
            · skip
              exact hj38.use
        · skip
          exact hj24.use
noncomputable def f_X8_partsa {d : Nat} : List zV → zH d → zP d → Bool := zfn 9 b_X8_partsa
theorem m_X8_partsa {d : Nat} : zMet (d := d) X_X8_parts yX8_parts 2 f_X8_partsa := zmet_mk (X := X_X8_parts) (by decide) rfl rfl s_X8_partsa

noncomputable def bX8_innera_14 {d : Nat} (P : zP d) : zK d := (xpL 18446744073709551615 (xlret P))
set_option maxRecDepth 100000 in
set_option maxHeartbeats 4000000 in
theorem sbX8_innera_14 {d : Nat} [zGh] (P : zP d) : zSim X_X8_inner 2 P 14 (bX8_innera_14 P) := by
  unfold bX8_innera_14
  refine sm_ldc2 (pc := 14) dX8_inner_14 wd_865 zc_cl_m1 ?_
  exact sm_lreturn (pc := 17) dX8_inner_17 rfl
noncomputable def cX8_innera_65 {d : Nat} (P : zP d) (r23 : zK d) : zK d := (xlal (xbinj zmulj (xbinj zaddj (xlst 3 (xincR 5 1 r23)))))
set_option maxRecDepth 100000 in
set_option maxHeartbeats 4000000 in
theorem scX8_innera_65 {d : Nat} [zGh] (P : zP d) (r23 : zK d) (hr23 : zSimJ 1 X_X8_inner 2 P 23 r23) : zSim X_X8_inner 2 P 65 (cX8_innera_65 P r23) := by
  unfold cX8_innera_65
  refine sm_laload (pc := 65) dX8_inner_65 ?_
  refine sm_lmul (pc := 66) dX8_inner_66 ?_
  refine sm_ladd (pc := 67) dX8_inner_67 ?_
  refine sm_lstore_n (pc := 68) (n := 3) dX8_inner_68 rfl ?_
  refine sm_iincR (pc := 69) (n := 5) dX8_inner_69 zc_i_1 ?_
  refine sm_goto (pc := 72) (tgt := 23) dX8_inner_72 (by decide) ?_
  exact hr23.use
noncomputable def lX8_innera_23 {d : Nat} (P : zP d) (r23 : zK d) : zK d := (xild 5 (xald 0 (xgfR 24 6 (xgfI 23 1 (xcmpS tgeR rlGe rhS rlS rhLt (xlld 3 (xlret P)) (xlld 3 (xald 0 (xgfR 24 6 (xgfR 23 5 (xild 5 (xalQ 0 (xi2lR (xald 0 (xgfR 24 2 (xild 1 (xaaT (xild 5 (xlal (xbinj zmulj (xald 0 (xgfR 24 2 (xild 2 (xaaT (xild 5 (cX8_innera_65 P r23)))))))))))))))))))))))))
set_option maxRecDepth 100000 in
set_option maxHeartbeats 4000000 in
theorem slX8_innera_23 {d : Nat} [zGh] (P : zP d) (r23 : zK d) (hr23 : zSimJ 1 X_X8_inner 2 P 23 r23) : zSim X_X8_inner 2 P 23 (lX8_innera_23 P r23) := by
  unfold lX8_innera_23
  refine sm_iload (pc := 23) (n := 5) dX8_inner_23 ?_
  refine sm_aload_n (pc := 25) (n := 0) dX8_inner_25 rfl ?_
  refine gf_X8_40 (pc := 26) rfl dX8_inner_26 ?_
  refine gf_X8_74 (pc := 29) rfl dX8_inner_29 ?_
  refine sm_icmpS_ge (pc := 32) (tgt := 75) dX8_inner_32 (by decide) ?_ ?_
  · skip
    refine sm_lload_n (pc := 75) (n := 3) dX8_inner_75 rfl ?_
    exact sm_lreturn (pc := 76) dX8_inner_76 rfl
  · skip
    refine sm_lload_n (pc := 35) (n := 3) dX8_inner_35 rfl ?_
    refine sm_aload_n (pc := 36) (n := 0) dX8_inner_36 rfl ?_
    refine gf_X8_40 (pc := 37) rfl dX8_inner_37 ?_
    refine gf_X8_193 (pc := 40) rfl dX8_inner_40 ?_
    refine sm_iload (pc := 43) (n := 5) dX8_inner_43 ?_
    refine sm_ialoadQ (pc := 45) dX8_inner_45 ?_
    refine sm_i2lR (pc := 46) dX8_inner_46 ?_
    refine sm_aload_n (pc := 47) (n := 0) dX8_inner_47 rfl ?_
    refine gf_X8_23 (pc := 48) rfl dX8_inner_48 ?_
    refine sm_iload_n (pc := 51) (n := 1) dX8_inner_51 rfl ?_
    refine sm_aaloadT (pc := 52) dX8_inner_52 ?_
    refine sm_iload (pc := 53) (n := 5) dX8_inner_53 ?_
    refine sm_laload (pc := 55) dX8_inner_55 ?_
    refine sm_lmul (pc := 56) dX8_inner_56 ?_
    refine sm_aload_n (pc := 57) (n := 0) dX8_inner_57 rfl ?_
    refine gf_X8_23 (pc := 58) rfl dX8_inner_58 ?_
    refine sm_iload_n (pc := 61) (n := 2) dX8_inner_61 rfl ?_
    refine sm_aaloadT (pc := 62) dX8_inner_62 ?_
    refine sm_iload (pc := 63) (n := 5) dX8_inner_63 ?_
    exact scX8_innera_65 P r23 hr23
noncomputable def b_X8_innera {d : Nat} (P : zP d) : zK d := (xild 1 (xcS 1 0 0 (zstr f_X8_isSlota) (xjoin (bX8_innera_14 P) (fun j14 => (xif0S teqR rlEq rhEq rlNe rhNe j14 (xild 2 (xcS 1 0 0 (zstr f_X8_isSlota) (xif0S teqR rlEq rhEq rlNe rhNe j14 (xpL 0 (xlst 3 (xpI 0 (xist 5 (xloop (fun r23 => (lX8_innera_23 P r23)) 100000)))))))))))))
set_option maxRecDepth 100000 in
set_option maxHeartbeats 4000000 in
theorem s_X8_innera {d : Nat} [zGh] (P : zP d) : zSim X_X8_inner 2 P 0 (b_X8_innera P) := by
  unfold b_X8_innera
  refine sm_iload_n (pc := 0) (n := 1) dX8_inner_0 rfl ?_
  refine sm_cS (pc := 1) (n := 1) (mc := 0) (ms := 0) (zMet_str m_X8_isSlota) (cr_X8_88 (X := X_X8_inner) (fr := 2) (frc := 1) (pc := 1) (mc := 0) (ms := 0) rfl (by decide) dX8_inner_1) ?_
  refine sm_joinJ (pc := 4) (pc' := 14) (j := 1) (fun G0 hG0 => @sbX8_innera_14 d G0 P) (fun j14 hj14 => ?_)
  refine sm_ifS_eq (pc := 4) (tgt := 14) dX8_inner_4 (by decide) ?_ ?_
  · skip
    exact hj14.use
  · skip
    refine sm_iload_n (pc := 7) (n := 2) dX8_inner_7 rfl ?_
    refine sm_cS (pc := 8) (n := 1) (mc := 0) (ms := 0) (zMet_str m_X8_isSlota) (cr_X8_88 (X := X_X8_inner) (fr := 2) (frc := 1) (pc := 8) (mc := 0) (ms := 0) rfl (by decide) dX8_inner_8) ?_
    refine sm_ifS_ne (pc := 11) (tgt := 18) dX8_inner_11 (by decide) ?_ ?_
    · skip
      refine sm_lconst (pc := 18) dX8_inner_18 zc_l_0 ?_
      refine sm_lstore_n (pc := 19) (n := 3) dX8_inner_19 rfl ?_
      refine sm_iconst (pc := 20) dX8_inner_20 zc_i_0 ?_
      refine sm_istore (pc := 21) (n := 5) dX8_inner_21 ?_
      exact (sm_loopJ (j := 1) (fun G1 hG1 r23 hr23 => @slX8_innera_23 d G1 P r23 hr23) _).use
    · skip
      exact hj14.use
noncomputable def f_X8_innera {d : Nat} : List zV → zH d → zP d → Bool := zfn 6 b_X8_innera
theorem m_X8_innera {d : Nat} : zMet (d := d) X_X8_inner yX8_inner 2 f_X8_innera := zmet_mk (X := X_X8_inner) (by decide) rfl rfl s_X8_innera

noncomputable def bX8_kinda_105 {d : Nat} (P : zP d) : zK d := (xpI 4294967295 (xiret P))
set_option maxRecDepth 100000 in
set_option maxHeartbeats 4000000 in
theorem sbX8_kinda_105 {d : Nat} [zGh] (P : zP d) : zSim X_X8_kind 3 P 105 (bX8_kinda_105 P) := by
  unfold bX8_kinda_105
  refine sm_iconst (pc := 105) dX8_kind_105 zc_i_m1 ?_
  exact sm_ireturn (pc := 106) dX8_kind_106 rfl
noncomputable def bX8_kinda_52 {d : Nat} (P : zP d) : zK d := (xald 0 (xald 3 (xcV 24 2 0 0 (zstr f_X8_isZeroOffRegular) (xcS 1 0 0 (zstr f_X8_bit) (xiret P)))))
set_option maxRecDepth 100000 in
set_option maxHeartbeats 4000000 in
theorem sbX8_kinda_52 {d : Nat} [zGh] (P : zP d) : zSim X_X8_kind 3 P 52 (bX8_kinda_52 P) := by
  unfold bX8_kinda_52
  refine sm_aload_n (pc := 52) (n := 0) dX8_kind_52 rfl ?_
  refine sm_aload_n (pc := 53) (n := 3) dX8_kind_53 rfl ?_
  refine sm_cV (pc := 54) (ci := 8) (n := 2) (mc := 0) (ms := 0) rfl (zMet_str m_X8_isZeroOffRegular) (cr_X8_275 (X := X_X8_kind) (fr := 3) (frc := 1) (pc := 54) (mc := 0) (ms := 0) rfl (by decide) dX8_kind_54) ?_
  refine sm_cS (pc := 57) (n := 1) (mc := 0) (ms := 0) (zMet_str m_X8_bit) (cr_X8_148 (X := X_X8_kind) (fr := 3) (frc := 1) (pc := 57) (mc := 0) (ms := 0) rfl (by decide) dX8_kind_57) ?_
  exact sm_ireturn (pc := 60) dX8_kind_60 rfl
noncomputable def bX8_kinda_61 {d : Nat} (P : zP d) : zK d := (xald 0 (xald 3 (xpI 0 (xpI 0 (xcV 24 4 0 0 (zstr f_X8_isWhole) (xcS 1 0 0 (zstr f_X8_bit) (xiret P)))))))
set_option maxRecDepth 100000 in
set_option maxHeartbeats 4000000 in
theorem sbX8_kinda_61 {d : Nat} [zGh] (P : zP d) : zSim X_X8_kind 3 P 61 (bX8_kinda_61 P) := by
  unfold bX8_kinda_61
  refine sm_aload_n (pc := 61) (n := 0) dX8_kind_61 rfl ?_
  refine sm_aload_n (pc := 62) (n := 3) dX8_kind_62 rfl ?_
  refine sm_iconst (pc := 63) dX8_kind_63 zc_i_0 ?_
  refine sm_iconst (pc := 64) dX8_kind_64 zc_i_0 ?_
  refine sm_cV (pc := 65) (ci := 8) (n := 4) (mc := 0) (ms := 0) rfl (zMet_str m_X8_isWhole) (cr_X8_279 (X := X_X8_kind) (fr := 3) (frc := 2) (pc := 65) (mc := 0) (ms := 0) rfl (by decide) dX8_kind_65) ?_
  refine sm_cS (pc := 68) (n := 1) (mc := 0) (ms := 0) (zMet_str m_X8_bit) (cr_X8_148 (X := X_X8_kind) (fr := 3) (frc := 1) (pc := 68) (mc := 0) (ms := 0) rfl (by decide) dX8_kind_68) ?_
  exact sm_ireturn (pc := 71) dX8_kind_71 rfl
noncomputable def bX8_kinda_72 {d : Nat} (P : zP d) : zK d := (xald 0 (xald 3 (xpI 0 (xpI 1 (xcV 24 4 0 0 (zstr f_X8_isWhole) (xcS 1 0 0 (zstr f_X8_bit) (xiret P)))))))
set_option maxRecDepth 100000 in
set_option maxHeartbeats 4000000 in
theorem sbX8_kinda_72 {d : Nat} [zGh] (P : zP d) : zSim X_X8_kind 3 P 72 (bX8_kinda_72 P) := by
  unfold bX8_kinda_72
  refine sm_aload_n (pc := 72) (n := 0) dX8_kind_72 rfl ?_
  refine sm_aload_n (pc := 73) (n := 3) dX8_kind_73 rfl ?_
  refine sm_iconst (pc := 74) dX8_kind_74 zc_i_0 ?_
  refine sm_iconst (pc := 75) dX8_kind_75 zc_i_1 ?_
  refine sm_cV (pc := 76) (ci := 8) (n := 4) (mc := 0) (ms := 0) rfl (zMet_str m_X8_isWhole) (cr_X8_279 (X := X_X8_kind) (fr := 3) (frc := 2) (pc := 76) (mc := 0) (ms := 0) rfl (by decide) dX8_kind_76) ?_
  refine sm_cS (pc := 79) (n := 1) (mc := 0) (ms := 0) (zMet_str m_X8_bit) (cr_X8_148 (X := X_X8_kind) (fr := 3) (frc := 1) (pc := 79) (mc := 0) (ms := 0) rfl (by decide) dX8_kind_79) ?_
  exact sm_ireturn (pc := 82) dX8_kind_82 rfl
noncomputable def bX8_kinda_83 {d : Nat} (P : zP d) : zK d := (xald 0 (xald 3 (xpI 1 (xpI 0 (xcV 24 4 0 0 (zstr f_X8_isWhole) (xcS 1 0 0 (zstr f_X8_bit) (xiret P)))))))
set_option maxRecDepth 100000 in
set_option maxHeartbeats 4000000 in
theorem sbX8_kinda_83 {d : Nat} [zGh] (P : zP d) : zSim X_X8_kind 3 P 83 (bX8_kinda_83 P) := by
  unfold bX8_kinda_83
  refine sm_aload_n (pc := 83) (n := 0) dX8_kind_83 rfl ?_
  refine sm_aload_n (pc := 84) (n := 3) dX8_kind_84 rfl ?_
  refine sm_iconst (pc := 85) dX8_kind_85 zc_i_1 ?_
  refine sm_iconst (pc := 86) dX8_kind_86 zc_i_0 ?_
  refine sm_cV (pc := 87) (ci := 8) (n := 4) (mc := 0) (ms := 0) rfl (zMet_str m_X8_isWhole) (cr_X8_279 (X := X_X8_kind) (fr := 3) (frc := 2) (pc := 87) (mc := 0) (ms := 0) rfl (by decide) dX8_kind_87) ?_
  refine sm_cS (pc := 90) (n := 1) (mc := 0) (ms := 0) (zMet_str m_X8_bit) (cr_X8_148 (X := X_X8_kind) (fr := 3) (frc := 1) (pc := 90) (mc := 0) (ms := 0) rfl (by decide) dX8_kind_90) ?_
  exact sm_ireturn (pc := 93) dX8_kind_93 rfl
noncomputable def bX8_kinda_94 {d : Nat} (P : zP d) : zK d := (xald 0 (xald 3 (xpI 1 (xpI 1 (xcV 24 4 0 0 (zstr f_X8_isWhole) (xcS 1 0 0 (zstr f_X8_bit) (xiret P)))))))
set_option maxRecDepth 100000 in
set_option maxHeartbeats 4000000 in
theorem sbX8_kinda_94 {d : Nat} [zGh] (P : zP d) : zSim X_X8_kind 3 P 94 (bX8_kinda_94 P) := by
  unfold bX8_kinda_94
  refine sm_aload_n (pc := 94) (n := 0) dX8_kind_94 rfl ?_
  refine sm_aload_n (pc := 95) (n := 3) dX8_kind_95 rfl ?_
  refine sm_iconst (pc := 96) dX8_kind_96 zc_i_1 ?_
  refine sm_iconst (pc := 97) dX8_kind_97 zc_i_1 ?_
  refine sm_cV (pc := 98) (ci := 8) (n := 4) (mc := 0) (ms := 0) rfl (zMet_str m_X8_isWhole) (cr_X8_279 (X := X_X8_kind) (fr := 3) (frc := 2) (pc := 98) (mc := 0) (ms := 0) rfl (by decide) dX8_kind_98) ?_
  refine sm_cS (pc := 101) (n := 1) (mc := 0) (ms := 0) (zMet_str m_X8_bit) (cr_X8_148 (X := X_X8_kind) (fr := 3) (frc := 1) (pc := 101) (mc := 0) (ms := 0) rfl (by decide) dX8_kind_101) ?_
  exact sm_ireturn (pc := 104) dX8_kind_104 rfl
noncomputable def b_X8_kinda {d : Nat} (P : zP d) : zK d := (xild 1 (xcS 1 0 0 (zstr f_X8_isSlota) (xif0S teqR rlEq rhEq rlNe rhNe (xpI 4294967295 (xiret P)) (xald 0 (xgfR 24 2 (xild 1 (xaaT (xast 3 (xild 2 (xtswR 4 [(bX8_kinda_52 P), (bX8_kinda_61 P), (bX8_kinda_72 P), (bX8_kinda_83 P), (bX8_kinda_94 P)] (bX8_kinda_105 P)))))))))))
set_option maxRecDepth 100000 in
set_option maxHeartbeats 4000000 in
theorem s_X8_kinda {d : Nat} [zGh] (P : zP d) : zSim X_X8_kind 3 P 0 (b_X8_kinda P) := by
  unfold b_X8_kinda
  refine sm_iload_n (pc := 0) (n := 1) dX8_kind_0 rfl ?_
  refine sm_cS (pc := 1) (n := 1) (mc := 0) (ms := 0) (zMet_str m_X8_isSlota) (cr_X8_88 (X := X_X8_kind) (fr := 3) (frc := 1) (pc := 1) (mc := 0) (ms := 0) rfl (by decide) dX8_kind_1) ?_
  refine sm_ifS_ne (pc := 4) (tgt := 9) dX8_kind_4 (by decide) ?_ ?_
  · skip
    refine sm_aload_n (pc := 9) (n := 0) dX8_kind_9 rfl ?_
    refine gf_X8_23 (pc := 10) rfl dX8_kind_10 ?_
    refine sm_iload_n (pc := 13) (n := 1) dX8_kind_13 rfl ?_
    refine sm_aaloadT (pc := 14) dX8_kind_14 ?_
    refine sm_astore_n (pc := 15) (n := 3) dX8_kind_15 rfl ?_
    refine sm_iload_n (pc := 16) (n := 2) dX8_kind_16 rfl ?_
    exact sm_tswR (pc := 17) (n := 4) (tdf := 105) [52, 61, 72, 83, 94] rfl (by decide) dX8_kind_17 rfl (by decide +kernel) (by decide) (sbX8_kinda_105 P) ⟨sbX8_kinda_52 P, sbX8_kinda_61 P, sbX8_kinda_72 P, sbX8_kinda_83 P, sbX8_kinda_94 P, trivial⟩
  · skip
    refine sm_iconst (pc := 7) dX8_kind_7 zc_i_m1 ?_
    exact sm_ireturn (pc := 8) dX8_kind_8 rfl
noncomputable def f_X8_kinda {d : Nat} : List zV → zH d → zP d → Bool := zfn 4 b_X8_kinda
theorem m_X8_kinda {d : Nat} : zMet (d := d) X_X8_kind yX8_kind 3 f_X8_kinda := zmet_mk (X := X_X8_kind) (by decide) rfl rfl s_X8_kinda

noncomputable def bX8_cuta_32 {d : Nat} (P : zP d) : zK d := (xpI 4294967295 (xiret P))
set_option maxRecDepth 100000 in
set_option maxHeartbeats 4000000 in
theorem sbX8_cuta_32 {d : Nat} [zGh] (P : zP d) : zSim X_X8_cut 2 P 32 (bX8_cuta_32 P) := by
  unfold bX8_cuta_32
  refine sm_iconst (pc := 32) dX8_cut_32 zc_i_m1 ?_
  exact sm_ireturn (pc := 33) dX8_cut_33 rfl
noncomputable def bX8_cuta_128 {d : Nat} (P : zP d) (r45 : zK d) : zK d := (xincR 4 1 r45)
set_option maxRecDepth 100000 in
set_option maxHeartbeats 4000000 in
theorem sbX8_cuta_128 {d : Nat} [zGh] (P : zP d) (r45 : zK d) (hr45 : zSimJ 1 X_X8_cut 2 P 45 r45) : zSim X_X8_cut 2 P 128 (bX8_cuta_128 P r45) := by
  unfold bX8_cuta_128
  refine sm_iincR (pc := 128) (n := 4) dX8_cut_128 zc_i_1 ?_
  refine sm_goto (pc := 131) (tgt := 45) dX8_cut_131 (by decide) ?_
  exact hr45.use
noncomputable def cX8_cuta_95 {d : Nat} (P : zP d) (j128 : zK d) : zK d := (xcV 24 2 0 0 (zstr f_X8_isWholeTimes) (xif0S teqR rlEq rhEq rlNe rhNe (xpI 4294967295 (xiret P)) (xald 0 (xlld 5 (xald 0 (xgfR 24 6 (xgfI 23 2 (xi2lR (xbinjN zdivj (xald 0 (xgfR 24 6 (xgfR 23 12 (xild 4 (xaaT (xcV 24 3 0 0 (zstr f_X8_addTimes) j128)))))))))))))))
set_option maxRecDepth 100000 in
set_option maxHeartbeats 4000000 in
theorem scX8_cuta_95 {d : Nat} [zGh] (P : zP d) (j128 : zK d) (hj128 : zSimJ 1 X_X8_cut 2 P 128 j128) : zSim X_X8_cut 2 P 95 (cX8_cuta_95 P j128) := by
  unfold cX8_cuta_95
  refine sm_cV (pc := 95) (ci := 8) (n := 2) (mc := 0) (ms := 0) rfl (zMet_str m_X8_isWholeTimes) (cr_X8_283 (X := X_X8_cut) (fr := 2) (frc := 1) (pc := 95) (mc := 0) (ms := 0) rfl (by decide) dX8_cut_95) ?_
  refine sm_ifS_ne (pc := 98) (tgt := 103) dX8_cut_98 (by decide) ?_ ?_
  · skip
    refine sm_aload_n (pc := 103) (n := 0) dX8_cut_103 rfl ?_
    refine sm_lload (pc := 104) (n := 5) dX8_cut_104 ?_
    refine sm_aload_n (pc := 106) (n := 0) dX8_cut_106 rfl ?_
    refine gf_X8_40 (pc := 107) rfl dX8_cut_107 ?_
    refine gf_X8_266 (pc := 110) rfl dX8_cut_110 ?_
    refine sm_i2lR (pc := 113) dX8_cut_113 ?_
    refine sm_ldiv (pc := 114) dX8_cut_114 ?_
    refine sm_aload_n (pc := 115) (n := 0) dX8_cut_115 rfl ?_
    refine gf_X8_40 (pc := 116) rfl dX8_cut_116 ?_
    refine gf_X8_209 (pc := 119) rfl dX8_cut_119 ?_
    refine sm_iload (pc := 122) (n := 4) dX8_cut_122 ?_
    refine sm_aaloadT (pc := 124) dX8_cut_124 ?_
    refine sm_cV (pc := 125) (ci := 8) (n := 3) (mc := 0) (ms := 0) rfl (zMet_str m_X8_addTimes) (cr_X8_287 (X := X_X8_cut) (fr := 2) (frc := 1) (pc := 125) (mc := 0) (ms := 0) rfl (by decide) dX8_cut_125) ?_
    exact hj128.use
  · skip
    refine sm_iconst (pc := 101) dX8_cut_101 zc_i_m1 ?_
    exact sm_ireturn (pc := 102) dX8_cut_102 rfl
noncomputable def lX8_cuta_45 {d : Nat} (P : zP d) (r45 : zK d) : zK d := (xild 4 (xald 0 (xgfR 24 6 (xgfI 23 1 (xcmpS tgeR rlGe rhS rlS rhLt (xald 0 (xgfR 24 3 (xpI 0 (xald 0 (xgfR 24 2 (xild 3 (xaaT (xpI 0 (xpI 11 (xcpy 2 72 (xpI 0 (xiret P)))))))))))) (xald 0 (xgfR 24 7 (xgfR 21 10 (xgfR 16 2 (xild 4 (xalQ 0 (xild 2 (xjoin (bX8_cuta_128 P r45) (fun j128 => (xcmpS teqR rlEq rhEq rlNe rhNe (xald 0 (xald 0 (xgfR 24 2 (xild 1 (xaaT (xild 4 (xpI 0 (xcV 24 4 0 0 (zstr f_X8_timesFactorial) (xlst 5 (xald 0 (xlld 5 (cX8_cuta_95 P j128)))))))))))) j128)))))))))))))))
set_option maxRecDepth 100000 in
set_option maxHeartbeats 4000000 in
theorem slX8_cuta_45 {d : Nat} [zGh] (P : zP d) (r45 : zK d) (hr45 : zSimJ 1 X_X8_cut 2 P 45 r45) : zSim X_X8_cut 2 P 45 (lX8_cuta_45 P r45) := by
  unfold lX8_cuta_45
  refine sm_iload (pc := 45) (n := 4) dX8_cut_45 ?_
  refine sm_aload_n (pc := 47) (n := 0) dX8_cut_47 rfl ?_
  refine gf_X8_40 (pc := 48) rfl dX8_cut_48 ?_
  refine gf_X8_74 (pc := 51) rfl dX8_cut_51 ?_
  refine sm_icmpS_ge (pc := 54) (tgt := 134) dX8_cut_54 (by decide) ?_ ?_
  · skip
    refine sm_aload_n (pc := 134) (n := 0) dX8_cut_134 rfl ?_
    refine gf_X8_26 (pc := 135) rfl dX8_cut_135 ?_
    refine sm_iconst (pc := 138) dX8_cut_138 zc_i_0 ?_
    refine sm_aload_n (pc := 139) (n := 0) dX8_cut_139 rfl ?_
    refine gf_X8_23 (pc := 140) rfl dX8_cut_140 ?_
    refine sm_iload_n (pc := 143) (n := 3) dX8_cut_143 rfl ?_
    refine sm_aaloadT (pc := 144) dX8_cut_144 ?_
    refine sm_iconst (pc := 145) dX8_cut_145 zc_i_0 ?_
    refine sm_bipush (pc := 146) dX8_cut_146 zc_b_11 ?_
    refine sm_copyJ (pc := 148) wd_771 wd_80 wd_79 wd_7 (by decide) dX8_cut_148 ?_
    refine sm_iconst (pc := 151) dX8_cut_151 zc_i_0 ?_
    exact sm_ireturn (pc := 152) dX8_cut_152 rfl
  · skip
    refine sm_aload_n (pc := 57) (n := 0) dX8_cut_57 rfl ?_
    refine gf_X8_47 (pc := 58) rfl dX8_cut_58 ?_
    refine gf_X8_152 (pc := 61) rfl dX8_cut_61 ?_
    refine gf_X8_161 (pc := 64) rfl dX8_cut_64 ?_
    refine sm_iload (pc := 67) (n := 4) dX8_cut_67 ?_
    refine sm_ialoadQ (pc := 69) dX8_cut_69 ?_
    refine sm_iload_n (pc := 70) (n := 2) dX8_cut_70 rfl ?_
    refine sm_joinJ (pc := 71) (pc' := 128) (j := 1) (fun G0 hG0 => @sbX8_cuta_128 d G0 P r45 (hr45.mv hG0 (by decide))) (fun j128 hj128 => ?_)
    refine sm_icmpS_eq (pc := 71) (tgt := 77) dX8_cut_71 (by decide) ?_ ?_
    · skip
      refine sm_aload_n (pc := 77) (n := 0) dX8_cut_77 rfl ?_
      refine sm_aload_n (pc := 78) (n := 0) dX8_cut_78 rfl ?_
      refine gf_X8_23 (pc := 79) rfl dX8_cut_79 ?_
      refine sm_iload_n (pc := 82) (n := 1) dX8_cut_82 rfl ?_
      refine sm_aaloadT (pc := 83) dX8_cut_83 ?_
      refine sm_iload (pc := 84) (n := 4) dX8_cut_84 ?_
      refine sm_iconst (pc := 86) dX8_cut_86 zc_i_0 ?_
      refine sm_cV (pc := 87) (ci := 8) (n := 4) (mc := 0) (ms := 0) rfl (zMet_str m_X8_timesFactorial) (cr_X8_256 (X := X_X8_cut) (fr := 2) (frc := 1) (pc := 87) (mc := 0) (ms := 0) rfl (by decide) dX8_cut_87) ?_
      refine sm_lstore (pc := 90) (n := 5) dX8_cut_90 ?_
      refine sm_aload_n (pc := 92) (n := 0) dX8_cut_92 rfl ?_
      refine sm_lload (pc := 93) (n := 5) dX8_cut_93 ?_
      exact scX8_cuta_95 P j128 hj128
    · skip
      refine sm_goto (pc := 74) (tgt := 128) dX8_cut_74 (by decide) ?_
      exact hj128.use
noncomputable def b_X8_cuta {d : Nat} (P : zP d) : zK d := (xild 1 (xcS 1 0 0 (zstr f_X8_isSlota) (xjoin (bX8_cuta_32 P) (fun j32 => (xif0S teqR rlEq rhEq rlNe rhNe j32 (xild 3 (xcS 1 0 0 (zstr f_X8_isSlota) (xif0S teqR rlEq rhEq rlNe rhNe j32 (xild 2 (xif0S tgeR rlGe rhS rlS rhLt (xild 2 (xald 0 (xgfR 24 7 (xgfR 21 10 (xgfI 16 3 (xcmpS tgeR rlGe rhS rlS rhLt j32 (xald 0 (xgfR 24 3 (xpL 0 (xcS 2 0 0 (zstr f_J7_fill_d0a16) (xpI 0 (xist 4 (xloop (fun r45 => (lX8_cuta_45 P r45)) 100000))))))))))))) j32))))))))))
set_option maxRecDepth 100000 in
set_option maxHeartbeats 4000000 in
theorem s_X8_cuta {d : Nat} [zGh] (P : zP d) : zSim X_X8_cut 2 P 0 (b_X8_cuta P) := by
  unfold b_X8_cuta
  refine sm_iload_n (pc := 0) (n := 1) dX8_cut_0 rfl ?_
  refine sm_cS (pc := 1) (n := 1) (mc := 0) (ms := 0) (zMet_str m_X8_isSlota) (cr_X8_88 (X := X_X8_cut) (fr := 2) (frc := 1) (pc := 1) (mc := 0) (ms := 0) rfl (by decide) dX8_cut_1) ?_
  refine sm_joinJ (pc := 4) (pc' := 32) (j := 1) (fun G0 hG0 => @sbX8_cuta_32 d G0 P) (fun j32 hj32 => ?_)
  refine sm_ifS_eq (pc := 4) (tgt := 32) dX8_cut_4 (by decide) ?_ ?_
  · skip
    exact hj32.use
  · skip
    refine sm_iload_n (pc := 7) (n := 3) dX8_cut_7 rfl ?_
    refine sm_cS (pc := 8) (n := 1) (mc := 0) (ms := 0) (zMet_str m_X8_isSlota) (cr_X8_88 (X := X_X8_cut) (fr := 2) (frc := 1) (pc := 8) (mc := 0) (ms := 0) rfl (by decide) dX8_cut_8) ?_
    refine sm_ifS_eq (pc := 11) (tgt := 32) dX8_cut_11 (by decide) ?_ ?_
    · skip
      exact hj32.use
    · skip
      refine sm_iload_n (pc := 14) (n := 2) dX8_cut_14 rfl ?_
      refine sm_ifS_lt (pc := 15) (tgt := 32) dX8_cut_15 (by decide) ?_ ?_
      · skip
        exact hj32.use
      · skip
        refine sm_iload_n (pc := 18) (n := 2) dX8_cut_18 rfl ?_
        refine sm_aload_n (pc := 19) (n := 0) dX8_cut_19 rfl ?_
        refine gf_X8_47 (pc := 20) rfl dX8_cut_20 ?_
        refine gf_X8_152 (pc := 23) rfl dX8_cut_23 ?_
        refine gf_X8_236 (pc := 26) rfl dX8_cut_26 ?_
        refine sm_icmpS_lt (pc := 29) (tgt := 34) dX8_cut_29 (by decide) ?_ ?_
        · skip
          refine sm_aload_n (pc := 34) (n := 0) dX8_cut_34 rfl ?_
          refine gf_X8_26 (pc := 35) rfl dX8_cut_35 ?_
          refine sm_lconst (pc := 38) dX8_cut_38 zc_l_0 ?_
          refine sm_cS (pc := 39) (n := 2) (mc := 0) (ms := 0) (zMet_str m_J7_fill_d0a16) (cr_X8_68 (X := X_X8_cut) (fr := 2) (frc := 1) (pc := 39) (mc := 0) (ms := 0) rfl (by decide) dX8_cut_39) ?_
          refine sm_iconst (pc := 42) dX8_cut_42 zc_i_0 ?_
          refine sm_istore (pc := 43) (n := 4) dX8_cut_43 ?_
          exact (sm_loopJ (j := 1) (fun G1 hG1 r45 hr45 => @slX8_cuta_45 d G1 P r45 hr45) _).use
        · skip
          exact hj32.use
noncomputable def f_X8_cuta {d : Nat} : List zV → zH d → zP d → Bool := zfn 7 b_X8_cuta
theorem m_X8_cuta {d : Nat} : zMet (d := d) X_X8_cut yX8_cut 2 f_X8_cuta := zmet_mk (X := X_X8_cut) (by decide) rfl rfl s_X8_cuta

noncomputable def bX8_looka_127 {d : Nat} (P : zP d) : zK d := (xpI 4294967295 (xiret P))
set_option maxRecDepth 100000 in
set_option maxHeartbeats 4000000 in
theorem sbX8_looka_127 {d : Nat} [zGh] (P : zP d) : zSim X_X8_look 3 P 127 (bX8_looka_127 P) := by
  unfold bX8_looka_127
  refine sm_iconst (pc := 127) dX8_look_127 zc_i_m1 ?_
  exact sm_ireturn (pc := 128) dX8_look_128 rfl
noncomputable def bX8_looka_52 {d : Nat} (P : zP d) : zK d := (xald 0 (xgfR 24 6 (xgfI 23 0 (xiret P))))
set_option maxRecDepth 100000 in
set_option maxHeartbeats 4000000 in
theorem sbX8_looka_52 {d : Nat} [zGh] (P : zP d) : zSim X_X8_look 3 P 52 (bX8_looka_52 P) := by
  unfold bX8_looka_52
  refine sm_aload_n (pc := 52) (n := 0) dX8_look_52 rfl ?_
  refine gf_X8_40 (pc := 53) rfl dX8_look_53 ?_
  refine gf_X8_176 (pc := 56) rfl dX8_look_56 ?_
  exact sm_ireturn (pc := 59) dX8_look_59 rfl
noncomputable def bX8_looka_60 {d : Nat} (P : zP d) : zK d := (xald 0 (xgfR 24 7 (xgfI 21 1 (xiret P))))
set_option maxRecDepth 100000 in
set_option maxHeartbeats 4000000 in
theorem sbX8_looka_60 {d : Nat} [zGh] (P : zP d) : zSim X_X8_look 3 P 60 (bX8_looka_60 P) := by
  unfold bX8_looka_60
  refine sm_aload_n (pc := 60) (n := 0) dX8_look_60 rfl ?_
  refine gf_X8_47 (pc := 61) rfl dX8_look_61 ?_
  refine gf_X8_179 (pc := 64) rfl dX8_look_64 ?_
  exact sm_ireturn (pc := 67) dX8_look_67 rfl
noncomputable def bX8_looka_68 {d : Nat} (P : zP d) : zK d := (xald 0 (xgfR 24 6 (xgfI 23 1 (xiret P))))
set_option maxRecDepth 100000 in
set_option maxHeartbeats 4000000 in
theorem sbX8_looka_68 {d : Nat} [zGh] (P : zP d) : zSim X_X8_look 3 P 68 (bX8_looka_68 P) := by
  unfold bX8_looka_68
  refine sm_aload_n (pc := 68) (n := 0) dX8_look_68 rfl ?_
  refine gf_X8_40 (pc := 69) rfl dX8_look_69 ?_
  refine gf_X8_74 (pc := 72) rfl dX8_look_72 ?_
  exact sm_ireturn (pc := 75) dX8_look_75 rfl
noncomputable def bX8_looka_76 {d : Nat} (P : zP d) : zK d := (xald 0 (xgfR 24 7 (xgfI 21 3 (xiret P))))
set_option maxRecDepth 100000 in
set_option maxHeartbeats 4000000 in
theorem sbX8_looka_76 {d : Nat} [zGh] (P : zP d) : zSim X_X8_look 3 P 76 (bX8_looka_76 P) := by
  unfold bX8_looka_76
  refine sm_aload_n (pc := 76) (n := 0) dX8_look_76 rfl ?_
  refine gf_X8_47 (pc := 77) rfl dX8_look_77 ?_
  refine gf_X8_291 (pc := 80) rfl dX8_look_80 ?_
  exact sm_ireturn (pc := 83) dX8_look_83 rfl
noncomputable def bX8_looka_84 {d : Nat} (P : zP d) : zK d := (xald 0 (xgfR 24 7 (xgfR 21 10 (xgfI 16 3 (xiret P)))))
set_option maxRecDepth 100000 in
set_option maxHeartbeats 4000000 in
theorem sbX8_looka_84 {d : Nat} [zGh] (P : zP d) : zSim X_X8_look 3 P 84 (bX8_looka_84 P) := by
  unfold bX8_looka_84
  refine sm_aload_n (pc := 84) (n := 0) dX8_look_84 rfl ?_
  refine gf_X8_47 (pc := 85) rfl dX8_look_85 ?_
  refine gf_X8_152 (pc := 88) rfl dX8_look_88 ?_
  refine gf_X8_236 (pc := 91) rfl dX8_look_91 ?_
  exact sm_ireturn (pc := 94) dX8_look_94 rfl
noncomputable def bX8_looka_95 {d : Nat} (P : zP d) : zK d := (xald 0 (xgfR 24 6 (xgfI 23 2 (xiret P))))
set_option maxRecDepth 100000 in
set_option maxHeartbeats 4000000 in
theorem sbX8_looka_95 {d : Nat} [zGh] (P : zP d) : zSim X_X8_look 3 P 95 (bX8_looka_95 P) := by
  unfold bX8_looka_95
  refine sm_aload_n (pc := 95) (n := 0) dX8_look_95 rfl ?_
  refine gf_X8_40 (pc := 96) rfl dX8_look_96 ?_
  refine gf_X8_266 (pc := 99) rfl dX8_look_99 ?_
  exact sm_ireturn (pc := 102) dX8_look_102 rfl
noncomputable def bX8_looka_103 {d : Nat} (P : zP d) : zK d := (xald 0 (xgfR 24 4 (xgfI 22 1 (xiret P))))
set_option maxRecDepth 100000 in
set_option maxHeartbeats 4000000 in
theorem sbX8_looka_103 {d : Nat} [zGh] (P : zP d) : zSim X_X8_look 3 P 103 (bX8_looka_103 P) := by
  unfold bX8_looka_103
  refine sm_aload_n (pc := 103) (n := 0) dX8_look_103 rfl ?_
  refine gf_X8_33 (pc := 104) rfl dX8_look_104 ?_
  refine gf_X8_85 (pc := 107) rfl dX8_look_107 ?_
  exact sm_ireturn (pc := 110) dX8_look_110 rfl
noncomputable def bX8_looka_111 {d : Nat} (P : zP d) : zK d := (xald 0 (xcV 24 1 0 0 (zstr f_X8_slotsInUse) (xiret P)))
set_option maxRecDepth 100000 in
set_option maxHeartbeats 4000000 in
theorem sbX8_looka_111 {d : Nat} [zGh] (P : zP d) : zSim X_X8_look 3 P 111 (bX8_looka_111 P) := by
  unfold bX8_looka_111
  refine sm_aload_n (pc := 111) (n := 0) dX8_look_111 rfl ?_
  refine sm_cV (pc := 112) (ci := 8) (n := 1) (mc := 0) (ms := 0) rfl (zMet_str m_X8_slotsInUse) (cr_X8_294 (X := X_X8_look) (fr := 3) (frc := 1) (pc := 112) (mc := 0) (ms := 0) rfl (by decide) dX8_look_112) ?_
  exact sm_ireturn (pc := 115) dX8_look_115 rfl
noncomputable def bX8_looka_116 {d : Nat} (P : zP d) : zK d := (xald 0 (xgfR 24 7 (xgfR 21 10 (xcV 16 1 0 0 (zstr f_X0_withoutDefect) (xiret P)))))
set_option maxRecDepth 100000 in
set_option maxHeartbeats 4000000 in
theorem sbX8_looka_116 {d : Nat} [zGh] (P : zP d) : zSim X_X8_look 3 P 116 (bX8_looka_116 P) := by
  unfold bX8_looka_116
  refine sm_aload_n (pc := 116) (n := 0) dX8_look_116 rfl ?_
  refine gf_X8_47 (pc := 117) rfl dX8_look_117 ?_
  refine gf_X8_152 (pc := 120) rfl dX8_look_120 ?_
  refine sm_cV (pc := 123) (ci := 0) (n := 1) (mc := 0) (ms := 0) rfl (zMet_str m_X0_withoutDefect) (cr_X8_298 (X := X_X8_look) (fr := 3) (frc := 2) (pc := 123) (mc := 0) (ms := 0) rfl (by decide) dX8_look_123) ?_
  exact sm_ireturn (pc := 126) dX8_look_126 rfl
noncomputable def b_X8_looka {d : Nat} (P : zP d) : zK d := (xild 1 (xtswR 8 [(bX8_looka_52 P), (bX8_looka_60 P), (bX8_looka_68 P), (bX8_looka_76 P), (bX8_looka_84 P), (bX8_looka_95 P), (bX8_looka_103 P), (bX8_looka_111 P), (bX8_looka_116 P)] (bX8_looka_127 P)))
set_option maxRecDepth 100000 in
set_option maxHeartbeats 4000000 in
theorem s_X8_looka {d : Nat} [zGh] (P : zP d) : zSim X_X8_look 3 P 0 (b_X8_looka P) := by
  unfold b_X8_looka
  refine sm_iload_n (pc := 0) (n := 1) dX8_look_0 rfl ?_
  exact sm_tswR (pc := 1) (n := 8) (tdf := 127) [52, 60, 68, 76, 84, 95, 103, 111, 116] rfl (by decide) dX8_look_1 rfl (by decide +kernel) (by decide) (sbX8_looka_127 P) ⟨sbX8_looka_52 P, sbX8_looka_60 P, sbX8_looka_68 P, sbX8_looka_76 P, sbX8_looka_84 P, sbX8_looka_95 P, sbX8_looka_103 P, sbX8_looka_111 P, sbX8_looka_116 P, trivial⟩
noncomputable def f_X8_looka {d : Nat} : List zV → zH d → zP d → Bool := zfn 2 b_X8_looka
theorem m_X8_looka {d : Nat} : zMet (d := d) X_X8_look yX8_look 3 f_X8_looka := zmet_mk (X := X_X8_look) (by decide) rfl rfl s_X8_looka
end
section
/-! a weaker heap behind a making: the places' array at one stroke -/
noncomputable def zbc (k : Nat) : Nat → Bool := Nat.rec (motive := fun _ => Nat → Bool) (fun x => Nat.ble x 720) (fun k r x => cond (Nat.beq x 0) true (zF (fun a => zF (fun b => cond (r a) (r b) false) (Nat.shiftRight x (Nat.mul 40 (Nat.pow 2 k)))) (Nat.mod x (Nat.pow 2 (Nat.mul 40 (Nat.pow 2 k)))))) k
theorem zwd_low (x k j : Nat) (hj : j < 2 ^ k) : zwd 40 (x % 2 ^ (40 * 2 ^ k)) j = zwd 40 x j := by
  refine zwd_ext (zwd_lt _ _ _) (zwd_lt _ _ _) (fun t ht => ?_)
  rw [zwd_bit _ _ _ _ ht, zwd_bit _ _ _ _ ht, Nat.testBit_mod_two_pow]
  have h1 : 40 * (j + 1) ≤ 40 * 2 ^ k := Nat.mul_le_mul_left 40 hj
  have h : 40 * j + t < 40 * 2 ^ k := by omega
  simp [h]
theorem zwd_high (x k j : Nat) : zwd 40 (x >>> (40 * 2 ^ k)) j = zwd 40 x (j + 2 ^ k) := by
  refine zwd_ext (zwd_lt _ _ _) (zwd_lt _ _ _) (fun t ht => ?_)
  rw [zwd_bit _ _ _ _ ht, zwd_bit _ _ _ _ ht, Nat.testBit_shiftRight]
  have e : 40 * 2 ^ k + (40 * j + t) = 40 * (j + 2 ^ k) + t := by rw [Nat.mul_add]; omega
  rw [e]
theorem zbc_t : ∀ (k x : Nat), zbc k x = true → ∀ j, j < 2 ^ k → zwd 40 x j ≤ 720
  | 0, x, h, j, hj => by
    have h : x ≤ 720 := Nat.le_of_ble_eq_true h
    have e : j = 0 := by have : (2 : Nat) ^ 0 = 1 := rfl; omega
    subst e
    show (x >>> (40 * 0)) % 2 ^ 40 ≤ 720
    rw [Nat.mul_zero, Nat.shiftRight_zero]
    exact Nat.le_trans (Nat.mod_le _ _) h
  | k + 1, x, h, j, hj => by
    have h : cond (Nat.beq x 0) true (zF (fun a => zF (fun b => cond (zbc k a) (zbc k b) false) (Nat.shiftRight x (Nat.mul 40 (Nat.pow 2 k)))) (Nat.mod x (Nat.pow 2 (Nat.mul 40 (Nat.pow 2 k))))) = true := h
    cases hx : Nat.beq x 0
    · rw [hx, cond_false, zF_eq, zF_eq] at h
      obtain ⟨h1, h2⟩ := zcnd_t h
      by_cases q : j < 2 ^ k
      · have := zbc_t k _ h1 j q
        rw [← zwd_low x k j q]
        exact this
      · have := zbc_t k _ h2 (j - 2 ^ k) (by rw [Nat.pow_succ] at hj; omega)
        have e := zwd_high x k (j - 2 ^ k)
        rw [show j - 2 ^ k + 2 ^ k = j by omega] at e
        rw [← e]
        exact this
    · have e := Nat.eq_of_beq_eq_true hx
      rw [e, zwd_zero]
      exact Nat.zero_le _
section WK
variable {d : Nat}
noncomputable def zwkH (b : Nat) (h hW : zH d) : Bool := Prod.rec (motive := fun _ => Bool) (fun kd v => Prod.rec (motive := fun _ => Bool) (fun len x => cond (Nat.beq kd 0) (cond (Nat.ble len 65536) (cond (Nat.ble (Nat.succ b) h.2.1) (cond (zbc 16 x) (zF (fun y => zsetK d h.1 b (0, len, y) (fun T => zsubH (T, h.2) hW)) (zun 40 len 4294968017)) false) false) false) false) v) (zget d h.1 b)
theorem zwkH_ok {C : zCh} {cA : Nat → ClassId} {b : Nat} {h hW : zH d} {ws : va_W} (hk : zwkH b h hW = true) (hH : @zHp C d cA h ws) : @zHp C d cA hW ws := by
  unfold zwkH at hk
  generalize hg : zget d h.1 b = c at hk
  obtain ⟨kd, len, x⟩ := c
  have hk : cond (Nat.beq kd 0) (cond (Nat.ble len 65536) (cond (Nat.ble (Nat.succ b) h.2.1) (cond (zbc 16 x) (zF (fun y => zsetK d h.1 b (0, len, y) (fun T => zsubH (T, h.2) hW)) (zun 40 len 4294968017)) false) false) false) false = true := hk
  obtain ⟨h1, hk⟩ := zcnd_t hk
  obtain ⟨h2, hk⟩ := zcnd_t hk
  obtain ⟨h3, hk⟩ := zcnd_t hk
  obtain ⟨h4, hk5⟩ := zcnd_t hk
  clear hk
  rw [zF_eq, zsetK_eq] at hk5
  have e1 := Nat.eq_of_beq_eq_true h1
  subst e1
  have e2 := Nat.le_of_ble_eq_true h2
  have e3 : b < h.2.1 := Nat.le_of_ble_eq_true h3
  have hbw : b < ws.length := by rw [hH.1]; exact e3
  have hq := List.getElem?_eq_getElem hbw
  have hc := hH.2.2 b _ hq
  rw [hg] at hc
  obtain ⟨hl, f, hf1, hf2⟩ := @zCell_i C cA _ 0 len x _ hc (by decide)
  refine zsubH_ok hk5 (zHp_cell hH hq ?_)
  rw [hf1]
  refine @zCell_ik C cA _ 0 len _ f (by decide) hl (fun j hj => ?_)
  rw [zun_wd 40 len 4294968017 j (by decide) (by decide) hj]
  have hw := hf2 j hj
  have hz := zbc_t 16 x h4 j (Nat.lt_of_lt_of_le hj e2)
  have hv := hw.1 (by omega)
  exact ⟨fun q => absurd q (by decide), fun _ _ => by rw [hv]; omega⟩
theorem zMet_wk {X : zM} {y : MethodName} {fr : Nat} {f : List zV → zH d → zP d → Bool} (b : Nat) (hW : zH d) (hM : zMet X y fr f) : zMet X y fr (fun as h P => f as h (fun r h' => cond (zwkH b h' hW) (P r hW) false)) :=
  zMet_ex hM (fun C cA ws as h P hg hH => ⟨C, h, _, rfl, hH, hg, fun C2 ws2 r h2 hp hH2 => by
    obtain ⟨g1, g2⟩ := zcnd_t hp
    exact ⟨C2, r, hW, g2, zwkH_ok g1 hH2, fun q => q, fun x hx => hx⟩⟩)
end WK
end
section
/-! quotients of numbers below 0 -/
def zdivS (a b : Nat) : Nat := cond (Nat.ble 2147483648 b) 4294967296 (cond (Nat.ble 4294967296 a) 4294967296 (cond (Nat.ble 2147483648 a) (Nat.mod (Nat.sub 4294967296 (Nat.div (Nat.sub 4294967296 a) b)) 4294967296) (Nat.div a b)))
def zremS (a b : Nat) : Nat := cond (Nat.ble 2147483648 b) 4294967296 (cond (Nat.ble 4294967296 a) 4294967296 (cond (Nat.ble 2147483648 a) (Nat.mod (Nat.sub 4294967296 (Nat.mod (Nat.sub 4294967296 a) b)) 4294967296) (Nat.mod a b)))
theorem zi_divN {x y : Int32} (hx : 2147483648 ≤ zi x) (hy : zi y < 2147483648) : zi (x / y) = (4294967296 - (4294967296 - zi x) / zi y) % 4294967296 := by
  have hlt := zi_lt x
  show (x / y).toBitVec.toNat = _
  rw [Int32.toBitVec_div]
  have m1 : x.toBitVec.msb = true := by rw [BitVec.msb_eq_decide]; exact decide_eq_true (by show 2147483648 ≤ zi x; omega)
  have m2 : y.toBitVec.msb = false := by rw [BitVec.msb_eq_decide]; exact decide_eq_false (by show ¬ 2147483648 ≤ zi y; omega)
  rw [BitVec.sdiv_eq, m1, m2]
  show (-((-x.toBitVec).udiv y.toBitVec)).toNat = _
  rw [BitVec.toNat_neg, BitVec.udiv_eq, BitVec.toNat_udiv, BitVec.toNat_neg]
  show (4294967296 - (4294967296 - zi x) % 4294967296 / zi y) % 4294967296 = _
  rw [Nat.mod_eq_of_lt (show 4294967296 - zi x < 4294967296 by omega)]
theorem zdivS_ok {a b : Nat} {x y : Int32} (hx : a < 4294967296 → zi x = a) (hy : b < 4294967296 → zi y = b) : zdivS a b < 4294967296 → zi (x / y) = zdivS a b := by
  unfold zdivS
  cases h1 : Nat.ble 2147483648 b
  · rw [cond_false]
    have q1 := zble_f h1
    have e2 := hy (by omega)
    cases h2 : Nat.ble 4294967296 a
    · rw [cond_false]
      have q2 := zble_f h2
      have e1 := hx q2
      cases h3 : Nat.ble 2147483648 a
      · rw [cond_false]
        have q3 := zble_f h3
        intro _
        rw [zi_div (by omega) (by omega), e1, e2]
        rfl
      · rw [cond_true]
        have q3 := Nat.le_of_ble_eq_true h3
        intro _
        rw [zi_divN (by omega) (by omega), e1, e2]
        rfl
    · intro q
      exact absurd q (Nat.lt_irrefl _)
  · intro q
    exact absurd q (Nat.lt_irrefl _)
theorem zremS_ok {a b : Nat} {x y : Int32} (hx : a < 4294967296 → zi x = a) (hy : b < 4294967296 → zi y = b) : zremS a b < 4294967296 → zi (x - x / y * y) = zremS a b := by
  unfold zremS
  cases h1 : Nat.ble 2147483648 b
  · rw [cond_false]
    have q1 := zble_f h1
    have e2 := hy (by omega)
    cases h2 : Nat.ble 4294967296 a
    · rw [cond_false]
      have q2 := zble_f h2
      have e1 := hx q2
      cases h3 : Nat.ble 2147483648 a
      · rw [cond_false]
        have q3 := zble_f h3
        intro _
        have h := zrem_ok hx hy
        have e : zrem a b = a % b := by
          unfold zrem
          have hl : Nat.lor a b < 2 ^ 31 := Nat.or_lt_two_pow (n := 31) q3 q1
          rw [zble_n (show Nat.lor a b < 2147483648 from hl)]
          rfl
        rw [e] at h
        exact h (Nat.lt_of_le_of_lt (Nat.mod_le _ _) q2)
      · rw [cond_true]
        have q3 := Nat.le_of_ble_eq_true h3
        intro _
        rw [zi_sub, zi_mul, zi_divN (by omega) (by omega), e1, e2]
        show _ = (4294967296 - (4294967296 - a) % b) % 4294967296
        have hA := Nat.mod_add_div (4294967296 - a) b
        have hlt : (4294967296 - a) % b ≤ 4294967296 - a := Nat.mod_le _ _
        generalize hq : (4294967296 - a) / b = q at hA ⊢
        generalize (4294967296 - a) % b = r at hA hlt ⊢
        generalize hc : b * q = c at hA
        have key : (4294967296 - q) % 4294967296 * b % 4294967296 = (4294967296 - c) % 4294967296 := by
          by_cases q0 : q = 0
          · subst q0
            have : c = 0 := by rw [← hc, Nat.mul_zero]
            subst this
            rw [Nat.sub_zero, Nat.mod_self, Nat.zero_mul]
          · have hql : q ≤ 2147483648 := by
              rw [← hq]
              exact Nat.le_trans (Nat.div_le_self _ _) (by omega)
            rw [Nat.mod_eq_of_lt (show 4294967296 - q < 4294967296 by omega), Nat.sub_mul, Nat.mul_comm q b, hc]
            have hb0 : 1 ≤ b := by
              rcases Nat.eq_zero_or_pos b with z | z
              · rw [z, Nat.div_zero] at hq
                omega
              · exact z
            omega
        rw [key]
        omega
    · intro q
      exact absurd q (Nat.lt_irrefl _)
  · intro q
    exact absurd q (Nat.lt_irrefl _)
theorem zdivS_le (a b : Nat) : zdivS a b ≤ 4294967296 := by
  unfold zdivS
  cases Nat.ble 2147483648 b
  · cases h2 : Nat.ble 4294967296 a
    · cases Nat.ble 2147483648 a
      · exact Nat.le_trans (Nat.div_le_self _ _) (Nat.le_of_lt (zble_f h2))
      · exact Nat.le_of_lt (Nat.mod_lt _ (by decide))
    · exact Nat.le_refl _
  · exact Nat.le_refl _
theorem zremS_le (a b : Nat) : zremS a b ≤ 4294967296 := by
  unfold zremS
  cases Nat.ble 2147483648 b
  · cases h2 : Nat.ble 4294967296 a
    · cases Nat.ble 2147483648 a
      · exact Nat.le_trans (Nat.mod_le _ _) (Nat.le_of_lt (zble_f h2))
      · exact Nat.le_of_lt (Nat.mod_lt _ (by decide))
    · exact Nat.le_refl _
  · exact Nat.le_refl _
section OPS
variable {d : Nat} {X : zM} {fr : Nat} {P : zP d} {pc : Nat} {k : zK d}
theorem sm_idivS [G : zGh] (dg : decode X.2.1 pc = .ok (.idiv, 1)) (hs : zSim X fr P (pc + 1) k) : zSim X fr P pc (xbinN zdivS k) := sm_binN zdivS_ok zdivS_le (fun _ _ hne => fun hx hb kk => lv_idiv hx hb dg hne kk) hs
theorem sm_iremS [G : zGh] (dg : decode X.2.1 pc = .ok (.irem, 1)) (hs : zSim X fr P (pc + 1) k) : zSim X fr P pc (xbinN zremS k) := sm_binN zremS_ok zremS_le (fun _ _ hne => fun hx hb kk => lv_irem hx hb dg hne kk) hs
end OPS
end
section
/-! rests of longs of any sign -/
theorem zj_rem (x y : Int64) : x - x / y * y = x % y := by
  apply Int64.toInt_inj.mp
  rw [Int64.toInt_mod, Int64.toInt_sub, Int64.toInt_mul, Int64.toInt_div, Int.bmod_mul_bmod, Int.sub_bmod_bmod]
  have e : x.toInt - x.toInt.tdiv y.toInt * y.toInt = (x % y).toInt := by
    rw [Int64.toInt_mod, Int.tmod_def, Int.mul_comm]
  rw [e, ← Int64.toInt_mod]
  exact Int64.toInt_bmod _
def zab (a : Nat) : Nat := cond (Nat.ble 9223372036854775808 a) (Nat.sub 18446744073709551616 a) a
def zremjX (a b : Nat) : Nat := cond (Nat.ble 18446744073709551616 (Nat.lor a b)) 18446744073709551616 (cond (Nat.ble 9223372036854775808 a) (Nat.mod (Nat.sub 18446744073709551616 (Nat.mod (zab a) (zab b))) 18446744073709551616) (Nat.mod (zab a) (zab b)))
theorem zab_p {a : Nat} (h : a < 9223372036854775808) : zab a = a := by unfold zab; rw [zble_n h]; rfl
theorem zab_n {a : Nat} (h : 9223372036854775808 ≤ a) : zab a = 18446744073709551616 - a := by unfold zab; rw [Nat.ble_eq_true_of_le h]; rfl
theorem zj_p {x : Int64} (h : zj x < 9223372036854775808) : x.toInt = (zab (zj x) : Int) := by
  rw [zj_toInt, if_pos h, zab_p h]
theorem zj_m {x : Int64} (h : 9223372036854775808 ≤ zj x) : x.toInt = -(zab (zj x) : Int) := by
  have := zj_lt x
  rw [zj_toInt, if_neg (by omega), zab_n h]
  omega
theorem zj_absR (x y : Int64) : (zj x < 9223372036854775808 → (x % y).toInt = ((zab (zj x) % zab (zj y) : Nat) : Int)) ∧ (9223372036854775808 ≤ zj x → (x % y).toInt = -((zab (zj x) % zab (zj y) : Nat) : Int)) := by
  have key : ∀ A : Nat, (A : Int).tmod y.toInt = ((A % zab (zj y) : Nat) : Int) := fun A => by
    by_cases hy : zj y < 9223372036854775808
    · rw [zj_p hy, Int.ofNat_tmod]
    · rw [zj_m (by omega), Int.tmod_neg, Int.ofNat_tmod]
  refine ⟨fun h => ?_, fun h => ?_⟩
  · rw [Int64.toInt_mod, zj_p h, key]
  · rw [Int64.toInt_mod, zj_m h, Int.neg_tmod, key]
theorem zremjX_ok {a b : Nat} {x y : Int64} (hx : a < 18446744073709551616 → zj x = a) (hy : b < 18446744073709551616 → zj y = b) : zremjX a b < 18446744073709551616 → zj (x - x / y * y) = zremjX a b := by
  unfold zremjX
  cases hb : Nat.ble 18446744073709551616 (Nat.lor a b)
  · rw [cond_false]
    obtain ⟨h1, h2⟩ := zle64 hb
    have e1 := hx h1
    have e2 := hy h2
    obtain ⟨p1, p2⟩ := zj_absR x y
    rw [e1, e2] at p1 p2
    rw [zj_rem]
    generalize hr : zab a % zab b = r at p1 p2
    have hz := zj_lt (x % y)
    have ht := zj_toInt (x % y)
    have hrl : r ≤ 9223372036854775808 := by
      rw [← hr]
      refine Nat.le_trans (Nat.mod_le _ _) ?_
      by_cases q : a < 9223372036854775808
      · rw [zab_p q]; omega
      · rw [zab_n (by omega)]; omega
    intro _
    have hr' : Nat.mod (zab a) (zab b) = r := hr
    rw [hr']
    cases hs : Nat.ble 9223372036854775808 a
    · rw [cond_false]
      have p := p1 (zble_f hs)
      rw [p] at ht
      split at ht <;> omega
    · rw [cond_true]
      have p := p2 (Nat.le_of_ble_eq_true hs)
      rw [p] at ht
      show zj (x % y) = (18446744073709551616 - r) % 18446744073709551616
      split at ht <;> omega
  · intro q
    exact absurd q (Nat.lt_irrefl _)
theorem zremjX_lt (a b : Nat) : zremjX a b < 4722366482869645213696 := by
  unfold zremjX
  cases Nat.ble 18446744073709551616 (Nat.lor a b)
  · rw [cond_false]
    cases hs : Nat.ble 9223372036854775808 a
    · rw [cond_false]
      have q := zble_f hs
      rw [zab_p q]
      exact Nat.lt_of_le_of_lt (Nat.mod_le _ _) (by omega)
    · exact Nat.lt_of_lt_of_le (Nat.mod_lt _ (by decide)) (by decide)
  · rw [cond_true]
    decide
section OPS
variable {d : Nat} {X : zM} {fr : Nat} {P : zP d} {pc : Nat} {k : zK d}
theorem sm_lremX [G : zGh] (dg : decode X.2.1 pc = .ok (.lrem, 1)) (hs : zSim X fr P (pc + 1) k) : zSim X fr P pc (xbinjN zremjX k) := sm_binjN zremjX_ok zremjX_lt (fun _ _ hne => fun hx hb kk => lv_lrem hx hb dg hne kk) hs
end OPS
end
section
/-! the two methods with rests of any sign, by program -/
noncomputable def lX9_divisorx_17 {d : Nat} (P : zP d) (r17 : zK d) : zK d := (xlld 6 (xpL 0 (xlcmp (xif0 t0eq (xlld 4 (xlret P)) (xlld 4 (xlld 6 (xbinjN zremjX (xlst 8 (xlld 6 (xlst 4 (xlld 8 (xlst 6 r17))))))))))))
set_option maxRecDepth 100000 in
set_option maxHeartbeats 4000000 in
theorem slX9_divisorx_17 {d : Nat} [zGh] (P : zP d) (r17 : zK d) (hr17 : zSimJ 1 X_X9_divisor 1 P 17 r17) : zSim X_X9_divisor 1 P 17 (lX9_divisorx_17 P r17) := by
  unfold lX9_divisorx_17
  refine sm_lload (pc := 17) (n := 6) dX9_divisor_17 ?_
  refine sm_lconst (pc := 19) dX9_divisor_19 zc_l_0 ?_
  refine sm_lcmp (pc := 20) dX9_divisor_20 ?_
  refine sm_if_eq (pc := 21) (tgt := 42) dX9_divisor_21 (by decide) ?_ ?_
  · skip
    refine sm_lload (pc := 42) (n := 4) dX9_divisor_42 ?_
    exact sm_lreturn (pc := 44) dX9_divisor_44 rfl
  · skip
    refine sm_lload (pc := 24) (n := 4) dX9_divisor_24 ?_
    refine sm_lload (pc := 26) (n := 6) dX9_divisor_26 ?_
    refine sm_lremX (pc := 28) dX9_divisor_28 ?_
    refine sm_lstore (pc := 29) (n := 8) dX9_divisor_29 ?_
    refine sm_lload (pc := 31) (n := 6) dX9_divisor_31 ?_
    refine sm_lstore (pc := 33) (n := 4) dX9_divisor_33 ?_
    refine sm_lload (pc := 35) (n := 8) dX9_divisor_35 ?_
    refine sm_lstore (pc := 37) (n := 6) dX9_divisor_37 ?_
    refine sm_goto (pc := 39) (tgt := 17) dX9_divisor_39 (by decide) ?_
    exact hr17.use
noncomputable def bX9_divisorx_12 {d : Nat} (P : zP d) : zK d := (xlst 4 (xlld 2 (xlst 6 (xloop (fun r17 => (lX9_divisorx_17 P r17)) 100000))))
set_option maxRecDepth 100000 in
set_option maxHeartbeats 4000000 in
theorem sbX9_divisorx_12 {d : Nat} [zGh] (P : zP d) : zSim X_X9_divisor 1 P 12 (bX9_divisorx_12 P) := by
  unfold bX9_divisorx_12
  refine sm_lstore (pc := 12) (n := 4) dX9_divisor_12 ?_
  refine sm_lload_n (pc := 14) (n := 2) dX9_divisor_14 rfl ?_
  refine sm_lstore (pc := 15) (n := 6) dX9_divisor_15 ?_
  exact (sm_loopJ (j := 1) (fun G1 hG1 r17 hr17 => @slX9_divisorx_17 d G1 P r17 hr17) _).use
noncomputable def b_X9_divisorx {d : Nat} (P : zP d) : zK d := (xlld 0 (xpL 0 (xlcmp (xjoin (bX9_divisorx_12 P) (fun j12 => (xif0 t0ge (xlld 0 j12) (xlld 0 (xunj znegj j12))))))))
set_option maxRecDepth 100000 in
set_option maxHeartbeats 4000000 in
theorem s_X9_divisorx {d : Nat} [zGh] (P : zP d) : zSim X_X9_divisor 1 P 0 (b_X9_divisorx P) := by
  unfold b_X9_divisorx
  refine sm_lload_n (pc := 0) (n := 0) dX9_divisor_0 rfl ?_
  refine sm_lconst (pc := 1) dX9_divisor_1 zc_l_0 ?_
  refine sm_lcmp (pc := 2) dX9_divisor_2 ?_
  refine sm_joinJ (pc := 3) (pc' := 12) (j := 1) (fun G0 hG0 => @sbX9_divisorx_12 d G0 P) (fun j12 hj12 => ?_)
  refine sm_if_ge (pc := 3) (tgt := 11) dX9_divisor_3 (by decide) ?_ ?_
  · skip
    refine sm_lload_n (pc := 11) (n := 0) dX9_divisor_11 rfl ?_
    exact hj12.use
  · skip
    refine sm_lload_n (pc := 6) (n := 0) dX9_divisor_6 rfl ?_
    refine sm_lneg (pc := 7) dX9_divisor_7 ?_
    refine sm_goto (pc := 8) (tgt := 12) dX9_divisor_8 (by decide) ?_
    exact hj12.use
noncomputable def f_X9_divisorx {d : Nat} : List zV → zH d → zP d → Bool := zfn 10 b_X9_divisorx
theorem m_X9_divisorx {d : Nat} : zMet (d := d) X_X9_divisor yX9_divisor 1 f_X9_divisorx := zmet_mk (X := X_X9_divisor) (by decide) rfl rfl s_X9_divisorx
noncomputable def bX8_greatestDivisorx_45 {d : Nat} (P : zP d) : zK d := (xlld 4 (xlret P))
set_option maxRecDepth 100000 in
set_option maxHeartbeats 4000000 in
theorem sbX8_greatestDivisorx_45 {d : Nat} [zGh] (P : zP d) : zSim X_X8_greatestDivisor 1 P 45 (bX8_greatestDivisorx_45 P) := by
  unfold bX8_greatestDivisorx_45
  refine sm_lload (pc := 45) (n := 4) dX8_greatestDivisor_45 ?_
  exact sm_lreturn (pc := 47) dX8_greatestDivisor_47 rfl
noncomputable def lX8_greatestDivisorx_9 {d : Nat} (P : zP d) (r9 : zK d) : zK d := (xild 8 (xpI 200 (xjoin (bX8_greatestDivisorx_45 P) (fun j45 => (xcmp tge j45 (xlld 6 (xpL 0 (xlcmp (xif0 t0eq j45 (xlld 4 (xlld 6 (xbinjN zremjX (xlst 9 (xlld 6 (xlst 4 (xlld 9 (xlst 6 (xinc 8 1 r9))))))))))))))))))
set_option maxRecDepth 100000 in
set_option maxHeartbeats 4000000 in
theorem slX8_greatestDivisorx_9 {d : Nat} [zGh] (P : zP d) (r9 : zK d) (hr9 : zSimJ 1 X_X8_greatestDivisor 1 P 9 r9) : zSim X_X8_greatestDivisor 1 P 9 (lX8_greatestDivisorx_9 P r9) := by
  unfold lX8_greatestDivisorx_9
  refine sm_iload (pc := 9) (n := 8) dX8_greatestDivisor_9 ?_
  refine sm_sipush (pc := 11) dX8_greatestDivisor_11 zc_s_200 ?_
  refine sm_joinJ (pc := 14) (pc' := 45) (j := 1) (fun G0 hG0 => @sbX8_greatestDivisorx_45 d G0 P) (fun j45 hj45 => ?_)
  refine sm_icmp_ge (pc := 14) (tgt := 45) dX8_greatestDivisor_14 (by decide) ?_ ?_
  · skip
    exact hj45.use
  · skip
    refine sm_lload (pc := 17) (n := 6) dX8_greatestDivisor_17 ?_
    refine sm_lconst (pc := 19) dX8_greatestDivisor_19 zc_l_0 ?_
    refine sm_lcmp (pc := 20) dX8_greatestDivisor_20 ?_
    refine sm_if_eq (pc := 21) (tgt := 45) dX8_greatestDivisor_21 (by decide) ?_ ?_
    · skip
      exact hj45.use
    · skip
      refine sm_lload (pc := 24) (n := 4) dX8_greatestDivisor_24 ?_
      refine sm_lload (pc := 26) (n := 6) dX8_greatestDivisor_26 ?_
      refine sm_lremX (pc := 28) dX8_greatestDivisor_28 ?_
      refine sm_lstore (pc := 29) (n := 9) dX8_greatestDivisor_29 ?_
      refine sm_lload (pc := 31) (n := 6) dX8_greatestDivisor_31 ?_
      refine sm_lstore (pc := 33) (n := 4) dX8_greatestDivisor_33 ?_
      refine sm_lload (pc := 35) (n := 9) dX8_greatestDivisor_35 ?_
      refine sm_lstore (pc := 37) (n := 6) dX8_greatestDivisor_37 ?_
      refine sm_iinc (pc := 39) (n := 8) dX8_greatestDivisor_39 zc_i_1 ?_
      refine sm_goto (pc := 42) (tgt := 9) dX8_greatestDivisor_42 (by decide) ?_
      exact hr9.use
noncomputable def b_X8_greatestDivisorx {d : Nat} (P : zP d) : zK d := (xlld 0 (xlst 4 (xlld 2 (xlst 6 (xpI 0 (xist 8 (xloop (fun r9 => (lX8_greatestDivisorx_9 P r9)) 100000)))))))
set_option maxRecDepth 100000 in
set_option maxHeartbeats 4000000 in
theorem s_X8_greatestDivisorx {d : Nat} [zGh] (P : zP d) : zSim X_X8_greatestDivisor 1 P 0 (b_X8_greatestDivisorx P) := by
  unfold b_X8_greatestDivisorx
  refine sm_lload_n (pc := 0) (n := 0) dX8_greatestDivisor_0 rfl ?_
  refine sm_lstore (pc := 1) (n := 4) dX8_greatestDivisor_1 ?_
  refine sm_lload_n (pc := 3) (n := 2) dX8_greatestDivisor_3 rfl ?_
  refine sm_lstore (pc := 4) (n := 6) dX8_greatestDivisor_4 ?_
  refine sm_iconst (pc := 6) dX8_greatestDivisor_6 zc_i_0 ?_
  refine sm_istore (pc := 7) (n := 8) dX8_greatestDivisor_7 ?_
  exact (sm_loopJ (j := 1) (fun G1 hG1 r9 hr9 => @slX8_greatestDivisorx_9 d G1 P r9 hr9) _).use
noncomputable def f_X8_greatestDivisorx {d : Nat} : List zV → zH d → zP d → Bool := zfn 11 b_X8_greatestDivisorx
theorem m_X8_greatestDivisorx {d : Nat} : zMet (d := d) X_X8_greatestDivisor yX8_greatestDivisor 1 f_X8_greatestDivisorx := zmet_mk (X := X_X8_greatestDivisor) (by decide) rfl rfl s_X8_greatestDivisorx
end
section
/-! their contracts, for any first number -/
section STEPJ
variable {d : Nat} {L S : List zV} {h : zH d} {k : zK d}
theorem go_lld {n a : Nat} (hL : L[n]? = some (zL a)) (hk : k L (zL a :: S) h = true) : xlld n k L S h = true := by
  show znth n L _ = true
  rw [znth_e n hL]
  exact hk
theorem go_lst {n a : Nat} {L' : List zV} (hL : ∀ K : List zV → Bool, zst (Nat.succ n) zU L (fun L => zst n (zL a) L K) = K L') (hk : k L' S h = true) : xlst n k L (zL a :: S) h = true := by
  show zst (Nat.succ n) zU L (fun L => zst n (zL a) L (fun L => k L S h)) = true
  rw [hL]
  exact hk
theorem go_pL {v : Nat} (hk : k L (zL v :: S) h = true) : xpL v k L S h = true := hk
theorem go_lcmp {a b v : Nat} (hv : zlcmp a b = v) (hk : k L (zI v :: S) h = true) : xlcmp k L (zL b :: zL a :: S) h = true := by
  show zF (fun v => k L (zI v :: S) h) (zlcmp a b) = true
  rw [zF_eq, hv]
  exact hk
theorem go_ifb {t : Nat → Bool} {a : Nat} {kt kf : zK d} (ha : a < 4294967296) (h1 : kt L S h = true) (h2 : kf L S h = true) : xif0 t kt kf L (zI a :: S) h = true := by
  show cond (Nat.ble 4294967296 a) (and (kt L S h) (kf L S h)) (cond (t a) (kt L S h) (kf L S h)) = true
  rw [zble_n ha, cond_false]
  cases t a
  · exact h2
  · exact h1
theorem go_remX {a b v : Nat} (hb0 : b ≠ 0) (hb : b < 18446744073709551616) (hv : zremjX a b = v) (hk : k L (zL v :: S) h = true) : xbinjN zremjX k L (zL b :: zL a :: S) h = true := by
  show cond (Nat.beq b 0) false (cond (Nat.ble 18446744073709551616 b) false (zF (fun v => k L (zL v :: S) h) (zremjX a b))) = true
  rw [zbeq_n hb0, zble_n hb, cond_false, cond_false, zF_eq, hv]
  exact hk
theorem go_unj {z : Nat → Nat} {a v : Nat} (hv : z a = v) (hk : k L (zL v :: S) h = true) : xunj z k L (zL a :: S) h = true := by
  show zF (fun v => k L (zL v :: S) h) (z a) = true
  rw [zF_eq, hv]
  exact hk
theorem go_cmpf {t : Nat → Nat → Bool} {a b : Nat} {kt kf : zK d} (ha : a < 4294967296) (hb : b < 4294967296) (ht : t a b = false) (hk : kf L S h = true) : xcmp t kt kf L (zI b :: zI a :: S) h = true := by
  show cond (Nat.ble 4294967296 (Nat.lor a b)) (and (kt L S h) (kf L S h)) (cond (t a b) (kt L S h) (kf L S h)) = true
  rw [zble_n (show Nat.lor a b < 2 ^ 32 from Nat.or_lt_two_pow (n := 32) ha hb), cond_false, ht]
  exact hk
theorem go_lret {P : zP d} {a : Nat} (hk : P (zL a) h = true) : xlret P L [zL a] h = true := hk
end STEPJ
theorem zab_z {y : Nat} (h : y < 18446744073709551616) (h0 : y ≠ 0) : 1 ≤ zab y ∧ zab y ≤ 9223372036854775808 := by
  by_cases q : y < 9223372036854775808
  · rw [zab_p q]; omega
  · rw [zab_n (by omega)]; omega
theorem zremjX_s {a b : Nat} (ha : a < 18446744073709551616) (hb : b < 18446744073709551616) (hb0 : b ≠ 0) : zremjX a b < 18446744073709551616 ∧ zab (zremjX a b) < zab b := by
  obtain ⟨b1, b2⟩ := zab_z hb hb0
  have hr : zab a % zab b < zab b := Nat.mod_lt _ (by omega)
  have hlor : Nat.ble 18446744073709551616 (Nat.lor a b) = false := zble_n (show Nat.lor a b < 2 ^ 64 from Nat.or_lt_two_pow (n := 64) ha hb)
  unfold zremjX
  rw [hlor, cond_false]
  have e : Nat.mod (zab a) (zab b) = zab a % zab b := rfl
  rw [e]
  generalize zab a % zab b = r at hr ⊢
  cases Nat.ble 9223372036854775808 a
  · rw [cond_false, zab_p (show r < 9223372036854775808 by omega)]
    exact ⟨by omega, hr⟩
  · rw [cond_true]
    have e2 : Nat.mod (Nat.sub 18446744073709551616 r) 18446744073709551616 = (18446744073709551616 - r) % 18446744073709551616 := rfl
    rw [e2]
    refine ⟨Nat.mod_lt _ (by decide), ?_⟩
    by_cases q : r = 0
    · subst q
      have e3 : (18446744073709551616 - 0) % 18446744073709551616 = 0 := rfl
      rw [e3, zab_p (by decide)]
      omega
    · rw [Nat.mod_eq_of_lt (by omega), zab_n (by omega)]
      omega
theorem zlcmp_nz {y : Nat} (hy : y < 18446744073709551616) (h0 : y ≠ 0) : zlcmp y 0 = 4294967295 ∨ zlcmp y 0 = 1 := by
  unfold zlcmp
  have hlor : Nat.ble 18446744073709551616 (Nat.lor y 0) = false := zble_n (show Nat.lor y 0 < 2 ^ 64 from Nat.or_lt_two_pow (n := 64) hy (by decide))
  rw [hlor, cond_false, zbeq_n h0, cond_false]
  cases zlej y 0
  · exact Or.inr rfl
  · exact Or.inl rfl
/-- a contract by way of other numbers that stand for the same values -/
theorem zMet_exA {d : Nat} {X : zM} {y : MethodName} {fr : Nat} {f g : List zV → zH d → zP d → Bool} (hm : zMet X y fr f) (hg : ∀ (G : zGh) (cA : Nat → ClassId) (ws : va_W) (as : List zV) (av : List Value) (h : zH d) (P : zP d), g as h P = true → @zRepL G (zad cA ws) as av → ∃ (as1 : List zV) (P1 : zP d), @zRepL G (zad cA ws) as1 av ∧ f as1 h P1 = true ∧ ∀ (r : zV) (h2 : zH d), P1 r h2 = true → ∃ r3 : zV, P r3 h2 = true ∧ (r = zU → r3 = zU) ∧ ∀ (ad : zA) (x : Value), (∀ (_ : zGh), zRep ad r x) → ∀ (_ : zGh), zRep ad r3 x) : zMet X y fr g := by
  intro G C l cA D ws av as h P sz hk has hH hT
  obtain ⟨as1, P1, hr1, hf, hq⟩ := hg G cA ws as av h P hk has
  refine Met_mono (@hm G C l cA D ws av as1 h P1 sz hf hr1 hH hT) (fun _ _ z => z) (fun a s o t _ hQ => ?_) (fun _ z => z)
  obtain ⟨⟨C2, r, h2, ws2, ov, o1, o2, o3, o4, o5, o6, o7⟩, o8⟩ := hQ
  obtain ⟨r3, p1, p3, p4⟩ := hq r h2 o3
  refine ⟨⟨C2, r3, h2, ws2, ov, o1, ?_, p1, o4, o5, o6, o7⟩, o8⟩
  rcases o2 with ⟨z1, z2⟩ | ⟨x, z1, z2⟩
  · exact Or.inl ⟨z1, p3 z2⟩
  · exact Or.inr ⟨x, z1, p4 _ x z2⟩
theorem tge_lt {a b : Nat} (h : a < b) (hb : b < 2147483648) : tge a b = false := by
  unfold tge zlei
  rw [zble_n (show Nat.lor b a < 2 ^ 31 from Nat.or_lt_two_pow (n := 31) hb (by omega)), cond_false]
  exact zble_n h
section GCD
variable {d : Nat}
theorem gcd_loop {P : zP d} {h : zH d} {a b : Nat} (hP : ∀ g, g ≠ 0 → g < 18446744073709551616 → P (zL g) h = true) : ∀ (N x y fuel : Nat) (u : zV), zab y ≤ N → N < fuel → x < 18446744073709551616 → y < 18446744073709551616 → (x ≠ 0 ∨ y ≠ 0) → (u = zU ∨ ∃ r, u = zL r) → xloop (fun r17 => lX9_divisorx_17 P r17) fuel [zL a, zU, zL b, zU, zL x, zU, zL y, zU, u, zU] [] h = true := by
  intro N
  induction N with
  | zero =>
    intro x y fuel u h1 h2 h3 h4 h5 h6
    obtain ⟨m, rfl⟩ : ∃ m, fuel = m + 1 := ⟨fuel - 1, by omega⟩
    have hy : y = 0 := Classical.byContradiction (fun q => by have := (zab_z h4 q).1; omega)
    subst hy
    show lX9_divisorx_17 P (xloop (fun r17 => lX9_divisorx_17 P r17) m) [zL a, zU, zL b, zU, zL x, zU, zL 0, zU, u, zU] [] h = true
    unfold lX9_divisorx_17
    refine go_lld rfl ?_
    refine go_pL ?_
    refine go_lcmp (v := 0) rfl ?_
    refine go_ift (by decide) rfl ?_
    refine go_lld rfl ?_
    exact go_lret (hP x (h5.elim id (fun q => absurd rfl q)) h3)
  | succ N ih =>
    intro x y fuel u h1 h2 h3 h4 h5 h6
    obtain ⟨m, rfl⟩ : ∃ m, fuel = m + 1 := ⟨fuel - 1, by omega⟩
    by_cases hy : y = 0
    · subst hy
      show lX9_divisorx_17 P (xloop (fun r17 => lX9_divisorx_17 P r17) m) [zL a, zU, zL b, zU, zL x, zU, zL 0, zU, u, zU] [] h = true
      unfold lX9_divisorx_17
      refine go_lld rfl ?_
      refine go_pL ?_
      refine go_lcmp (v := 0) rfl ?_
      refine go_ift (by decide) rfl ?_
      refine go_lld rfl ?_
      exact go_lret (hP x (h5.elim id (fun q => absurd rfl q)) h3)
    · obtain ⟨s1, s2⟩ := zremjX_s h3 h4 hy
      show lX9_divisorx_17 P (xloop (fun r17 => lX9_divisorx_17 P r17) m) [zL a, zU, zL b, zU, zL x, zU, zL y, zU, u, zU] [] h = true
      unfold lX9_divisorx_17
      refine go_lld rfl ?_
      refine go_pL ?_
      refine go_lcmp (v := zlcmp y 0) rfl ?_
      refine go_iff (by rcases zlcmp_nz h4 hy with q | q <;> rw [q] <;> decide) (by rcases zlcmp_nz h4 hy with q | q <;> rw [q] <;> rfl) ?_
      refine go_lld rfl ?_
      refine go_lld rfl ?_
      refine go_remX (v := zremjX x y) hy h4 rfl ?_
      refine go_lst (L' := [zL a, zU, zL b, zU, zL x, zU, zL y, zU, zL (zremjX x y), zU]) (by rcases h6 with rfl | ⟨r, rfl⟩ <;> exact fun _ => rfl) ?_
      refine go_lld rfl ?_
      refine go_lst (L' := [zL a, zU, zL b, zU, zL y, zU, zL y, zU, zL (zremjX x y), zU]) (fun _ => rfl) ?_
      refine go_lld rfl ?_
      refine go_lst (L' := [zL a, zU, zL b, zU, zL y, zU, zL (zremjX x y), zU, zL (zremjX x y), zU]) (fun _ => rfl) ?_
      exact ih y (zremjX x y) m (zL (zremjX x y)) (by omega) (by omega) h4 s1 (Or.inl hy) (Or.inr ⟨_, rfl⟩)
noncomputable def gX_X9_divisor : List zV → zH d → zP d → Bool := fun as h P => zpL as (fun _ as => zpL as (fun b as => List.rec (motive := fun _ => Bool) (cond (Nat.ble 1 b) (cond (Nat.ble b 720) (P (zL (zjr 1 18446744073709551616)) h) false) false) (fun _ _ _ => false) as))
theorem mX_X9_divisor : zMet (d := d) X_X9_divisor yX9_divisor 1 gX_X9_divisor := zMet_exA m_X9_divisorx (fun G cA ws as av h P hg has => by
  obtain ⟨a, as1, rfl, hg1⟩ := zpL_t hg
  clear hg
  obtain ⟨b, as2, rfl, hg2⟩ := zpL_t hg1
  clear hg1
  match as2, hg2 with
  | _ :: _, hg2 => cases hg2
  | [], hg2 =>
    obtain ⟨c1, hg3⟩ := zcnd_t hg2
    obtain ⟨c2, hP⟩ := zcnd_t hg3
    have c1 := Nat.le_of_ble_eq_true c1
    have c2 := Nat.le_of_ble_eq_true c2
    obtain ⟨ia, av1, rfl, hia, has1⟩ := zRepL_L has
    obtain ⟨ib, av2, rfl, hib, has2⟩ := zRepL_L has1
    refine ⟨[zL (zj ia), zL b], fun r h2 => @decide (∃ g, g ≠ 0 ∧ g < 18446744073709551616 ∧ r = zL g ∧ h2 = h) (Classical.propDecidable _), ⟨⟨ia, rfl, zJs_e rfl⟩, ⟨ib, rfl, hib⟩, has2⟩, ?_, fun r h2 hr => ?_⟩
    · generalize hP1 : (fun r h2 => @decide (∃ g, g ≠ 0 ∧ g < 18446744073709551616 ∧ r = zL g ∧ h2 = h) (Classical.propDecidable _) : zP d) = P1
      have hQ : ∀ g, g ≠ 0 → g < 18446744073709551616 → P1 (zL g) h = true := fun g g1 g2 => by rw [← hP1]; exact @decide_eq_true _ (Classical.propDecidable _) ⟨g, g1, g2, rfl, rfl⟩
      have hjl := zj_lt ia
      generalize zj ia = x0 at hjl ⊢
      have key : ∀ x, x < 18446744073709551616 → bX9_divisorx_12 P1 [zL x0, zU, zL b, zU, zU, zU, zU, zU, zU, zU] [zL x] h = true := fun x hx => by
        unfold bX9_divisorx_12
        refine go_lst (L' := [zL x0, zU, zL b, zU, zL x, zU, zU, zU, zU, zU]) (fun _ => rfl) ?_
        refine go_lld rfl ?_
        refine go_lst (L' := [zL x0, zU, zL b, zU, zL x, zU, zL b, zU, zU, zU]) (fun _ => rfl) ?_
        exact gcd_loop hQ 720 x b 100000 zU (by rw [zab_p (by omega)]; exact c2) (by decide) hx (by omega) (Or.inr (by omega)) (Or.inl rfl)
      show b_X9_divisorx P1 [zL x0, zU, zL b, zU, zU, zU, zU, zU, zU, zU] [] h = true
      unfold b_X9_divisorx
      refine go_lld rfl ?_
      refine go_pL ?_
      refine go_lcmp (v := zlcmp x0 0) rfl ?_
      have hc : zlcmp x0 0 < 4294967296 := by
        by_cases q : x0 = 0
        · subst q; decide
        · rcases zlcmp_nz hjl q with z | z <;> rw [z] <;> decide
      refine (show xif0 t0ge (xlld 0 (bX9_divisorx_12 P1)) (xlld 0 (xunj znegj (bX9_divisorx_12 P1))) [zL x0, zU, zL b, zU, zU, zU, zU, zU, zU, zU] [zI (zlcmp x0 0)] h = true from ?_)
      refine go_ifb hc ?_ ?_
      · exact go_lld rfl (key x0 hjl)
      · refine go_lld rfl ?_
        refine go_unj (v := (18446744073709551616 - x0) % 18446744073709551616) ?_ (key _ (Nat.mod_lt _ (by decide)))
        unfold znegj
        rw [zble_n hjl]
        rfl
    · obtain ⟨g, g1, g2, rfl, rfl⟩ := @of_decide_eq_true _ (Classical.propDecidable _) hr
      refine ⟨zL (zjr 1 18446744073709551616), hP, (fun q => by cases q), fun ad x hx G' => ?_⟩
      obtain ⟨i, e1, e2⟩ := hx G'
      have e3 := e2.1 g2
      exact ⟨i, e1, zjr_ok (by omega) (zj_lt i)⟩)
/-- the class's: two hundred turns at most -/
theorem gcd_loop8 {P : zP d} {h : zH d} {a b : Nat} (hP : ∀ g, g < 18446744073709551616 → P (zL g) h = true) : ∀ (N x y i fuel : Nat) (u : zV), i + N = 200 → N < fuel → x < 18446744073709551616 → y < 18446744073709551616 → (u = zU ∨ ∃ r, u = zL r) → xloop (fun r9 => lX8_greatestDivisorx_9 P r9) fuel [zL a, zU, zL b, zU, zL x, zU, zL y, zU, zI i, u, zU] [] h = true := by
  intro N
  induction N with
  | zero =>
    intro x y i fuel u h1 h2 h3 h4 h6
    obtain ⟨m, rfl⟩ : ∃ m, fuel = m + 1 := ⟨fuel - 1, by omega⟩
    have hi : i = 200 := by omega
    subst hi
    show lX8_greatestDivisorx_9 P (xloop (fun r9 => lX8_greatestDivisorx_9 P r9) m) [zL a, zU, zL b, zU, zL x, zU, zL y, zU, zI 200, u, zU] [] h = true
    unfold lX8_greatestDivisorx_9
    refine go_ild rfl ?_
    refine go_pI ?_
    refine (show bX8_greatestDivisorx_45 P [zL a, zU, zL b, zU, zL x, zU, zL y, zU, zI 200, u, zU] [] h = true from ?_)
    unfold bX8_greatestDivisorx_45
    refine go_lld rfl ?_
    exact go_lret (hP x h3)
  | succ N ih =>
    intro x y i fuel u h1 h2 h3 h4 h6
    obtain ⟨m, rfl⟩ : ∃ m, fuel = m + 1 := ⟨fuel - 1, by omega⟩
    have hend : ∀ (u : zV), bX8_greatestDivisorx_45 P [zL a, zU, zL b, zU, zL x, zU, zL y, zU, zI i, u, zU] [] h = true := fun u => by
      unfold bX8_greatestDivisorx_45
      refine go_lld rfl ?_
      exact go_lret (hP x h3)
    show lX8_greatestDivisorx_9 P (xloop (fun r9 => lX8_greatestDivisorx_9 P r9) m) [zL a, zU, zL b, zU, zL x, zU, zL y, zU, zI i, u, zU] [] h = true
    unfold lX8_greatestDivisorx_9
    refine go_ild rfl ?_
    refine go_pI ?_
    refine go_cmpf (by omega) (by decide) ?_ ?_
    · show tge i 200 = false
      exact tge_lt (by omega) (by decide)
    refine go_lld rfl ?_
    refine go_pL ?_
    by_cases hy : y = 0
    · subst hy
      refine go_lcmp (v := 0) rfl ?_
      exact go_ift (by decide) rfl (hend u)
    · obtain ⟨s1, s2⟩ := zremjX_s h3 h4 hy
      refine go_lcmp (v := zlcmp y 0) rfl ?_
      refine go_iff (by rcases zlcmp_nz h4 hy with q | q <;> rw [q] <;> decide) (by rcases zlcmp_nz h4 hy with q | q <;> rw [q] <;> rfl) ?_
      refine go_lld rfl ?_
      refine go_lld rfl ?_
      refine go_remX (v := zremjX x y) hy h4 rfl ?_
      refine go_lst (L' := [zL a, zU, zL b, zU, zL x, zU, zL y, zU, zI i, zL (zremjX x y), zU]) (by rcases h6 with rfl | ⟨r, rfl⟩ <;> exact fun _ => rfl) ?_
      refine go_lld rfl ?_
      refine go_lst (L' := [zL a, zU, zL b, zU, zL y, zU, zL y, zU, zI i, zL (zremjX x y), zU]) (fun _ => rfl) ?_
      refine go_lld rfl ?_
      refine go_lst (L' := [zL a, zU, zL b, zU, zL y, zU, zL (zremjX x y), zU, zI i, zL (zremjX x y), zU]) (fun _ => rfl) ?_
      refine go_inc (a := i) (w := i + 1) (L' := [zL a, zU, zL b, zU, zL y, zU, zL (zremjX x y), zU, zI (i + 1), zL (zremjX x y), zU]) rfl ?_ (fun _ => rfl) ?_
      · show zk2 i 1 (Nat.mod (Nat.add i 1) 4294967296) = i + 1
        rw [zk2_e (by omega) (by decide)]
        show (i + 1) % 4294967296 = i + 1
        omega
      · exact ih y (zremjX x y) (i + 1) m (zL (zremjX x y)) (by omega) (by omega) h4 s1 (Or.inr ⟨_, rfl⟩)
noncomputable def gX_X8_greatestDivisor : List zV → zH d → zP d → Bool := fun as h P => zpL as (fun _ as => zpL as (fun _ as => List.rec (motive := fun _ => Bool) (P (zL 18446744073709551616) h) (fun _ _ _ => false) as))
theorem mX_X8_greatestDivisor : zMet (d := d) X_X8_greatestDivisor yX8_greatestDivisor 1 gX_X8_greatestDivisor := zMet_exA m_X8_greatestDivisorx (fun G cA ws as av h P hg has => by
  obtain ⟨a, as1, rfl, hg1⟩ := zpL_t hg
  clear hg
  obtain ⟨b, as2, rfl, hg2⟩ := zpL_t hg1
  clear hg1
  match as2, hg2 with
  | _ :: _, hg2 => cases hg2
  | [], hP =>
    have hP : P (zL 18446744073709551616) h = true := hP
    obtain ⟨ia, av1, rfl, hia, has1⟩ := zRepL_L has
    obtain ⟨ib, av2, rfl, hib, has2⟩ := zRepL_L has1
    refine ⟨[zL (zj ia), zL (zj ib)], fun r h2 => @decide (∃ g, g < 18446744073709551616 ∧ r = zL g ∧ h2 = h) (Classical.propDecidable _), ⟨⟨ia, rfl, zJs_e rfl⟩, ⟨ib, rfl, zJs_e rfl⟩, has2⟩, ?_, fun r h2 hr => ?_⟩
    · generalize hP1 : (fun r h2 => @decide (∃ g, g < 18446744073709551616 ∧ r = zL g ∧ h2 = h) (Classical.propDecidable _) : zP d) = P1
      have hQ : ∀ g, g < 18446744073709551616 → P1 (zL g) h = true := fun g g2 => by rw [← hP1]; exact @decide_eq_true _ (Classical.propDecidable _) ⟨g, g2, rfl, rfl⟩
      have hjl := zj_lt ia
      have hjb := zj_lt ib
      generalize zj ia = x0 at hjl ⊢
      generalize zj ib = y0 at hjb ⊢
      unfold f_X8_greatestDivisorx zfn
      generalize hbb : b_X8_greatestDivisorx P1 = bb
      show bb [zL x0, zU, zL y0, zU, zU, zU, zU, zU, zU, zU, zU] [] h = true
      rw [← hbb]
      unfold b_X8_greatestDivisorx
      refine go_lld rfl ?_
      refine go_lst (L' := [zL x0, zU, zL y0, zU, zL x0, zU, zU, zU, zU, zU, zU]) (fun _ => rfl) ?_
      refine go_lld rfl ?_
      refine go_lst (L' := [zL x0, zU, zL y0, zU, zL x0, zU, zL y0, zU, zU, zU, zU]) (fun _ => rfl) ?_
      refine go_pI ?_
      refine go_ist (L' := [zL x0, zU, zL y0, zU, zL x0, zU, zL y0, zU, zI 0, zU, zU]) (fun _ => rfl) ?_
      exact gcd_loop8 hQ 200 x0 y0 0 100000 zU rfl (by decide) hjl hjb (Or.inl rfl)
    · obtain ⟨g, g2, rfl, rfl⟩ := @of_decide_eq_true _ (Classical.propDecidable _) hr
      refine ⟨zL 18446744073709551616, hP, (fun q => by cases q), fun ad x hx G' => ?_⟩
      obtain ⟨i, e1, e2⟩ := hx G'
      exact ⟨i, e1, zJs_of (fun q => absurd q (Nat.lt_irrefl _)) (by decide)⟩)
end GCD
end
section
/-! blocks of a world: a part of it, and parts put together -/
section BLOCK
/-- a part of a world -/
noncomputable def zsubB {d ds : Nat} (φ : List Nat) (h : zH d) (hs : zH ds) : Bool := cond (Nat.ble hs.2.1 (Nat.pow 2 ds)) (cond (Nat.beq (zlen φ) hs.2.1) (cond (znd h.2.1 φ) (cond (zmtL φ h.1 hs.1 φ 0) (Nat.ble (Nat.add h.2.1 hs.2.1) 1000000) false) false) false) false
def zsubw (φ : List Nat) (ws : va_W) : va_W := φ.map (fun b => (ws[b]?).getD ((0, .inr (0, [])) : Nat × va_E))
theorem zHp_sub [zCh] {d ds : Nat} {cA : Nat → ClassId} {h : zH d} {hs : zH ds} {ws : va_W} {φ : List Nat} (hk : zsubB φ h hs = true) (hH : zHp cA h ws) : zHp (zcg cA (zsubw φ ws)) hs (zsubw φ ws) ∧ ∀ (p : Nat) (q : Nat × va_E), (zsubw φ ws)[p]? = some q → ∃ b, φ[p]? = some b ∧ ws[b]? = some q := by
  obtain ⟨c0, hk⟩ := zcnd_t hk
  obtain ⟨c1, hk⟩ := zcnd_t hk
  obtain ⟨c2, hk⟩ := zcnd_t hk
  obtain ⟨c3, c4⟩ := zcnd_t hk
  have m0 : hs.2.1 ≤ 2 ^ ds := Nat.le_of_ble_eq_true c0
  have m1 : φ.length = hs.2.1 := by rw [← zlen_eq]; exact Nat.eq_of_beq_eq_true c1
  have m4 : h.2.1 + hs.2.1 ≤ 1000000 := Nat.le_of_ble_eq_true c4
  obtain ⟨n1, n2⟩ := znd_t c2
  have hN : ws.length = h.2.1 := hH.1
  have hwl : (zsubw φ ws).length = φ.length := List.length_map ..
  have hφ : ∀ (p b : Nat), φ[p]? = some b → b < 549755813887 ∧ p < 549755813887 ∧ ∃ q, ws[b]? = some q ∧ (zsubw φ ws)[p]? = some q := by
    intro p b hp
    have hb := n1 p b hp
    have hpl := (List.getElem?_eq_some_iff.mp hp).1
    have e : ws[b]? = some ws[b] := List.getElem?_eq_getElem (by omega)
    refine ⟨by omega, by omega, ws[b], e, ?_⟩
    unfold zsubw
    rw [List.getElem?_map, hp]
    simp [e]
  have hφr : ∀ (p : Nat) (q : Nat × va_E), (zsubw φ ws)[p]? = some q → ∃ b, φ[p]? = some b ∧ ws[b]? = some q := by
    intro p q hp
    have hpl := (List.getElem?_eq_some_iff.mp hp).1
    have e : φ[p]? = some φ[p] := List.getElem?_eq_getElem (by omega)
    obtain ⟨-, -, q', g1, g2⟩ := hφ p _ e
    rw [hp] at g2
    cases g2
    exact ⟨_, e, g1⟩
  refine ⟨⟨by omega, m0, fun i q hi => ?_⟩, hφr⟩
  obtain ⟨b, hb, hq⟩ := hφr i q hi
  have hm := zmtL_t φ 0 c3 i b hb
  rw [Nat.zero_add] at hm
  obtain ⟨qa, qe⟩ := q
  exact zmt_ok hφ hi (hH.2.2 b _ hq) hm
/-- what an opaque word of a block becomes: the same (where both ghosts agree), or a cell -/
noncomputable def zjE (ok : Nat → Bool) (w w3 : Nat) (E : List (Nat × Nat)) : Bool := List.rec (motive := fun _ => Bool) (cond (Nat.beq w3 w) (ok w) false) (fun e _ r => Prod.rec (motive := fun _ => Bool) (fun w0 k => cond (Nat.beq w w0) (Nat.beq w3 k) r) e) E
theorem zjE_t {ok : Nat → Bool} {w w3 : Nat} : ∀ {E : List (Nat × Nat)}, zjE ok w w3 E = true → (w3 = w ∧ ok w = true) ∨ (w, w3) ∈ E
  | [], h => by
    have h : cond (Nat.beq w3 w) (ok w) false = true := h
    obtain ⟨h1, h2⟩ := zcnd_t h
    exact Or.inl ⟨Nat.eq_of_beq_eq_true h1, h2⟩
  | (w0, k) :: E, h => by
    have h : cond (Nat.beq w w0) (Nat.beq w3 k) (zjE ok w w3 E) = true := h
    cases hb : Nat.beq w w0
    · rw [hb, cond_false] at h
      rcases zjE_t h with q | q
      · exact Or.inl q
      · exact Or.inr (List.mem_cons_of_mem _ q)
    · rw [hb, cond_true] at h
      rw [Nat.eq_of_beq_eq_true hb]
      rw [Nat.eq_of_beq_eq_true h]
      exact Or.inr List.mem_cons_self
noncomputable def zjw (ok : Nat → Bool) (o : Nat) (E : List (Nat × Nat)) (isR : Bool) (w w3 : Nat) : Bool := cond isR (cond (Nat.ble 549755813888 w) (zjE ok w w3 E) (Nat.rec (motive := fun _ => Bool) (Nat.beq w3 0) (fun _ _ => cond (Nat.beq w3 (Nat.add w o)) (Nat.ble w3 549755813887) false) w)) (cond (Nat.beq w3 w) (cond (Nat.ble 549755813888 w) (ok w) (Nat.ble w 274877906943)) false)
noncomputable def zjC (ok : Nat → Bool) (o : Nat) (E : List (Nat × Nat)) (c c3 : zC) : Bool := Prod.rec (motive := fun _ => Bool) (fun kd v => Prod.rec (motive := fun _ => Bool) (fun len x => Prod.rec (motive := fun _ => Bool) (fun kd3 v3 => Prod.rec (motive := fun _ => Bool) (fun len3 x3 => cond (Nat.beq kd kd3) (cond (Nat.beq len len3) (cond (Nat.ble kd 2) (Nat.beq x x3) (cond (Nat.ble kd 7) (zall len (fun j => zjw ok o E true (zwd 40 x j) (zwd 40 x3 j))) (cond (Nat.ble 16 kd) (zall (zN (Nat.sub kd 16)) (fun j => zjw ok o E (zisR (zfty (Nat.sub kd 16) j)) (zwd 40 x j) (zwd 40 x3 j))) false))) false) false) v3) c3) v) c
variable {cB c3 : Nat → Nat} {wB w3 : va_W} {ok : Nat → Bool} {o : Nat} {E : List (Nat × Nat)}
theorem zjw_R {w v : Nat} {r : Option Nat} (had : ∀ k a, (zad cB wB).1[k]? = some a → (zad c3 w3).1[k + o]? = some a) (hok : ∀ w, ok w = true → c3 w = cB w) (hE : ∀ w v, (w, v) ∈ E → v < 549755813888 ∧ zRf (zad c3 w3) v (zop cB w)) (h : zjw ok o E true w v = true) (hr : zRw (zad cB wB) w r) : zRw (zad c3 w3) v r := by
  unfold zjw at h
  rw [cond_true] at h
  cases hb : Nat.ble 549755813888 w
  · rw [hb, cond_false] at h
    have hw := zble_f hb
    rcases hr with ⟨-, hr⟩ | ⟨z, -⟩
    · cases w with
      | zero =>
        have e : v = 0 := Nat.eq_of_beq_eq_true h
        subst e
        rcases hr with ⟨-, z⟩ | ⟨k, a, z, -⟩
        · exact Or.inl ⟨by decide, Or.inl ⟨rfl, z⟩⟩
        · cases z
      | succ k =>
        have h : cond (Nat.beq v (k + 1 + o)) (Nat.ble v 549755813887) false = true := h
        obtain ⟨h1, h2⟩ := zcnd_t h
        have e := Nat.eq_of_beq_eq_true h1
        have h2 := Nat.le_of_ble_eq_true h2
        rcases hr with ⟨z, -⟩ | ⟨k', a, z1, z2, z3⟩
        · cases z
        · have ek : k = k' := by omega
          subst ek
          exact Or.inl ⟨by omega, Or.inr ⟨k + o, a, by omega, had k a z2, z3⟩⟩
    · omega
  · rw [hb, cond_true] at h
    have hw := Nat.le_of_ble_eq_true hb
    rcases hr with ⟨z, -⟩ | ⟨-, hr⟩
    · omega
    · have hr : r = zop cB w := hr
      rcases zjE_t h with ⟨e, q⟩ | q1
      · rw [e]
        refine Or.inr ⟨hw, ?_⟩
        show r = zop c3 w
        rw [hr]
        unfold zop
        rw [Nat.max_eq_left (by omega), hok w q]
      · obtain ⟨g1, g2⟩ := hE w v q1
        rw [hr]
        exact Or.inl ⟨g1, g2⟩
theorem zjC_ok {C1 C2 : zCh} {c c' : zC} {e : va_E} (hty : ∀ i, i < 8 → c3 i = cB i) (had : ∀ k a, (zad cB wB).1[k]? = some a → (zad c3 w3).1[k + o]? = some a) (hok : ∀ w, ok w = true → c3 w = cB w) (hE : ∀ w v, (w, v) ∈ E → v < 549755813888 ∧ zRf (zad c3 w3) v (zop cB w)) (hok9 : ok 549755813888 = false) (h : zjC ok o E c c' = true) (hc : @zCell C1 cB (zad cB wB) c e) : @zCell C2 c3 (zad c3 w3) c' e := by
  obtain ⟨kd, len, x⟩ := c
  obtain ⟨kd3, len3, x3⟩ := c'
  have h : cond (Nat.beq kd kd3) (cond (Nat.beq len len3) (cond (Nat.ble kd 2) (Nat.beq x x3) (cond (Nat.ble kd 7) (zall len (fun j => zjw ok o E true (zwd 40 x j) (zwd 40 x3 j))) (cond (Nat.ble 16 kd) (zall (zN (Nat.sub kd 16)) (fun j => zjw ok o E (zisR (zfty (Nat.sub kd 16) j)) (zwd 40 x j) (zwd 40 x3 j))) false))) false) false = true := h
  obtain ⟨h1, hA⟩ := zcnd_t h
  obtain ⟨h2, hB⟩ := zcnd_t hA
  have e1 := Nat.eq_of_beq_eq_true h1
  have e2 := Nat.eq_of_beq_eq_true h2
  clear h h1 h2 hA
  subst e1
  subst e2
  clear h
  have h := hB
  clear hB
  cases k2 : Nat.ble kd 2
  · rw [k2, cond_false] at h
    have q2 := zble_f k2
    cases k7 : Nat.ble kd 7
    · rw [k7, cond_false] at h
      obtain ⟨k16, h⟩ := zcnd_t h
      have q16 := Nat.le_of_ble_eq_true k16
      obtain ⟨fs, rfl, hl, hf⟩ := @zCell_obj C1 _ _ _ _ _ (kd - 16) _ hc (by omega)
      have hek : kd = 16 + (kd - 16) := by omega
      have hw := zall_t h
      have key : @zCell C2 c3 (zad c3 w3) (16 + (kd - 16), len, x3) (.inr (kd - 16, fs)) := @zCell_ok C2 _ _ _ _ _ _ hl (fun j v hv => by
        have hj : j < zN (kd - 16) := by rw [← hl]; exact (List.getElem?_eq_some_iff.mp hv).1
        have hwj : zjw ok o E (zisR (zfty (kd - 16) j)) (zwd 40 x j) (zwd 40 x3 j) = true := hw j hj
        have hfj := hf j v hv
        unfold zFl at hfj ⊢
        cases hz : zisR (zfty (kd - 16) j)
        · rw [hz] at hwj
          rw [hz, cond_false] at hfj
          rw [cond_false]
          unfold zjw at hwj
          rw [cond_false] at hwj
          obtain ⟨g1, g2⟩ := zcnd_t hwj
          rw [Nat.eq_of_beq_eq_true g1]
          obtain ⟨i, r1, r2, r3, r4⟩ := hfj
          cases hb : Nat.ble 549755813888 (zwd 40 x j)
          · rw [hb, cond_false] at g2
            have b1 := zble_f hb
            have b2 := Nat.le_of_ble_eq_true g2
            exact ⟨i, r1, ⟨r2.1, fun z => absurd z (by omega)⟩, fun z => absurd z (by omega), fun z => absurd z (by omega)⟩
          · rw [hb, cond_true] at g2
            have b1 := Nat.le_of_ble_eq_true hb
            have b9 : zwd 40 x j ≠ 549755813888 := fun z => by rw [z, hok9] at g2; cases g2
            refine ⟨i, r1, ⟨r2.1, fun z => absurd z b9⟩, fun z => ?_, fun _ z => absurd z (by omega)⟩
            show zi i = c3 (zwd 40 x j)
            rw [hok _ g2]
            exact r3 z
        · rw [hz] at hwj
          rw [hz, cond_true] at hfj
          rw [cond_true]
          obtain ⟨r, rfl, hr⟩ := hfj
          exact ⟨r, rfl, zjw_R had hok hE hwj hr⟩)
      rw [← hek] at key
      exact key
    · rw [k7, cond_true] at h
      have q7 := Nat.le_of_ble_eq_true k7
      obtain ⟨hl, f, rfl, hf⟩ := @zCell_r C1 _ _ _ _ _ _ hc (by omega) (by omega)
      have hw := zall_t h
      have key := @zCell_rk C2 c3 (zad c3 w3) kd len x3 f (by omega) (by omega) hl (fun j hj => zjw_R had hok hE (hw j hj) (hf j hj))
      rw [hty kd (by omega)] at key
      exact key
  · rw [k2, cond_true] at h
    have q2 := Nat.le_of_ble_eq_true k2
    rw [← Nat.eq_of_beq_eq_true h]
    exact zCell_lo q2 hc (fun i hi => hty i (by omega))
noncomputable def zjB {d1 d3 : Nat} (ok : Nat → Bool) (o : Nat) (E : List (Nat × Nat)) (h1 : zH d1) (H3 : zH d3) : Bool := zall h1.2.1 (fun i => zjC ok o E (zget d1 h1.1 i) (zget d3 H3.1 (Nat.add o i)))
theorem zjB_ok {C1 C2 : zCh} {d1 d3 : Nat} {h1 : zH d1} {H3 : zH d3} (hty : ∀ i, i < 8 → c3 i = cB i) (had : ∀ k a, (zad cB wB).1[k]? = some a → (zad c3 w3).1[k + o]? = some a) (hok : ∀ w, ok w = true → c3 w = cB w) (hE : ∀ w v, (w, v) ∈ E → v < 549755813888 ∧ zRf (zad c3 w3) v (zop cB w)) (hok9 : ok 549755813888 = false) (hk : zjB ok o E h1 H3 = true) (hB : @zHp C1 d1 cB h1 wB) : ∀ (i : Nat) (q : Nat × va_E), wB[i]? = some q → @zCell C2 c3 (zad c3 w3) (zget d3 H3.1 (o + i)) q.2 := fun i q hi => zjC_ok hty had hok hE hok9 (zall_t hk i (by rw [← hB.1]; exact (List.getElem?_eq_some_iff.mp hi).1)) (hB.2.2 i q hi)
end BLOCK
/-- three blocks (the last two may be empty) make a world -/
theorem zHp_join {C C1 C2 C3 : zCh} {d1 d2 d3 d : Nat} {h1 : zH d1} {h2 : zH d2} {h3 : zH d3} {HH : zH d} {cA1 cA2 cA3 cA : Nat → Nat} {w1 w2 w3 : va_W} {ok1 ok2 ok3 : Nat → Bool} {E : List (Nat × Nat)}
    (H1 : @zHp C1 d1 cA1 h1 w1) (H2 : @zHp C2 d2 cA2 h2 w2) (H3 : @zHp C3 d3 cA3 h3 w3) (hn : HH.2.1 = h1.2.1 + h2.2.1 + h3.2.1) (hd : HH.2.1 ≤ 2 ^ d)
    (t1 : ∀ i, i < 8 → cA i = cA1 i) (t2 : ∀ i, i < 8 → cA i = cA2 i) (t3 : ∀ i, i < 8 → cA i = cA3 i) (k1 : ∀ w, ok1 w = true → cA w = cA1 w) (k2 : ∀ w, ok2 w = true → cA w = cA2 w) (k3 : ∀ w, ok3 w = true → cA w = cA3 w) (n1 : ok1 549755813888 = false) (n2 : ok2 549755813888 = false) (n3 : ok3 549755813888 = false)
    (hE : ∀ w v, (w, v) ∈ E → v < 549755813888 ∧ zRf (zad cA (w1 ++ w2 ++ w3)) v (zop cA1 w))
    (b1 : zjB ok1 0 E h1 HH = true) (b2 : zjB ok2 h1.2.1 [] h2 HH = true) (b3 : zjB ok3 (h1.2.1 + h2.2.1) [] h3 HH = true) : @zHp C d cA HH (w1 ++ w2 ++ w3) := by
  have l1 : w1.length = h1.2.1 := H1.1
  have l2 : w2.length = h2.2.1 := H2.1
  have l3 : w3.length = h3.2.1 := H3.1
  have a1 : ∀ k a, (zad cA1 w1).1[k]? = some a → (zad cA (w1 ++ w2 ++ w3)).1[k + 0]? = some a := by
    intro k a h
    have h : (w1.map (fun q => q.1))[k]? = some a := h
    show ((w1 ++ w2 ++ w3).map (fun q => q.1))[k + 0]? = some a
    rw [List.map_append, List.map_append, Nat.add_zero, List.append_assoc, List.getElem?_append_left (List.getElem?_eq_some_iff.mp h).1]
    exact h
  have a2 : ∀ k a, (zad cA2 w2).1[k]? = some a → (zad cA (w1 ++ w2 ++ w3)).1[k + h1.2.1]? = some a := by
    intro k a h
    have h : (w2.map (fun q => q.1))[k]? = some a := h
    show ((w1 ++ w2 ++ w3).map (fun q => q.1))[k + h1.2.1]? = some a
    have hk := (List.getElem?_eq_some_iff.mp h).1
    rw [List.map_append, List.map_append, List.append_assoc, List.getElem?_append_right (by rw [List.length_map]; omega), List.length_map, show k + h1.2.1 - w1.length = k by omega, List.getElem?_append_left hk]
    exact h
  have a3 : ∀ k a, (zad cA3 w3).1[k]? = some a → (zad cA (w1 ++ w2 ++ w3)).1[k + (h1.2.1 + h2.2.1)]? = some a := by
    intro k a h
    have h : (w3.map (fun q => q.1))[k]? = some a := h
    show ((w1 ++ w2 ++ w3).map (fun q => q.1))[k + (h1.2.1 + h2.2.1)]? = some a
    rw [List.map_append, List.map_append, List.getElem?_append_right (by rw [List.length_append, List.length_map, List.length_map]; omega), List.length_append, List.length_map, List.length_map, show k + (h1.2.1 + h2.2.1) - (w1.length + w2.length) = k by omega]
    exact h
  refine ⟨by rw [List.length_append, List.length_append]; omega, hd, fun i q hi => ?_⟩
  by_cases c1 : i < w1.length
  · have hi1 : w1[i]? = some q := by
      rw [List.append_assoc, List.getElem?_append_left c1] at hi
      exact hi
    have key := zjB_ok (C2 := C) t1 a1 k1 hE n1 b1 H1 i q hi1
    rw [Nat.zero_add] at key
    exact key
  · by_cases c2 : i < w1.length + w2.length
    · have hi2 : w2[i - w1.length]? = some q := by
        rw [List.append_assoc, List.getElem?_append_right (by omega), List.getElem?_append_left (by omega)] at hi
        exact hi
      have key := zjB_ok (C2 := C) t2 a2 k2 (fun w v h => by cases h) n2 b2 H2 (i - w1.length) q hi2
      rw [show h1.2.1 + (i - w1.length) = i by omega] at key
      exact key
    · have hi3 : w3[i - (w1.length + w2.length)]? = some q := by
        rw [List.getElem?_append_right (by rw [List.length_append]; omega), List.length_append] at hi
        exact hi
      have key := zjB_ok (C2 := C) t3 a3 k3 (fun w v h => by cases h) n3 b3 H3 (i - (w1.length + w2.length)) q hi3
      rw [show h1.2.1 + h2.2.1 + (i - (w1.length + w2.length)) = i by omega] at key
      exact key
end
section
/-! a call of the law: what lies outside its world stays -/
section CALLF
variable {p : Program} {l : Launch} {e : Env} {R : Room} {s : State} {m : MethodId} {args : Array Value} {below : List Frame} {meth : Method} {c : Code} {H : Heap} {locs : List Loc} {cells slots : Nat} {Q : State → Prop}
variable {pc : Nat} {ls : Array Slot} {rest st0 : List Value} {a : Array Value} {A0 A1 : Nat → Prop} {mc ms : Nat} {free : Addr → Prop}
theorem zrunF {d : Nat} {P : zP d} {cA : Nat → ClassId} {D : va_G} {ad : zA} (hr : va_Run p l e R s m args below meth c H locs cells slots mc ms (F0 m pc ls st0) rest (zQc P cA D ad A1 a) free) (hS : va_S A0 s.heap H locs) (hA : ∀ q, q < H.size → A1 q → A0 q) (hf : ∀ q, free q → A0 q)
    (kk : ∀ [zCh] (r : zV) (h : zH d) (ws : va_W) (ov : Option Value) (H1 : Heap) (locs1 : List Loc), ((ov = none ∧ r = zU) ∨ ∃ x, ov = some x ∧ ∀ (_ : zGh), zRep (zad cA ws) r x) → P r h = true → zHp cA h ws → zPre ad (zad cA ws) → va_P D zcl ws H1 → va_D A1 ws → va_S A0 s.heap H1 locs1 → H.size ≤ H1.size → (∀ q, q < H.size → ¬ A1 q → H1[q]? = H[q]?) → W p l e R s m args below meth c H1 locs1 (cells + mc) (slots + ms) Q (F0 m (pc + 3) ls (ov.toList ++ rest))) : W p l e R s m args below meth c H locs cells slots Q (F0 m pc ls st0) := by
  intro T hT X
  obtain ⟨v, st₀, t, T', L, h0, X', hL, e1, e2, ⟨⟨Ch, r, h, ws, ov, hv, hp, hb, hh, hpr, hP, hD⟩, hz, hk⟩, st⟩ := hr T hT X
  cases hv
  rw [h0] at hz hk
  obtain ⟨t2, a1, b1⟩ := kk r h ws v T'.heap (locs ++ L) hp hb hh hpr (by rw [e1]; exact hP) hD
    ⟨Nat.le_trans hS.1 (by rw [e1]; exact hz), fun q h1 h2 => by rw [e1, hk q (Nat.lt_of_lt_of_le h1 hS.1) (fun z => h2 (hA q (Nat.lt_of_lt_of_le h1 hS.1) z))]; exact hS.2.1 q h1 h2, fun q hq => by
      rcases List.mem_append.mp hq with h | h
      · exact hS.2.2 q h
      · exact hf _ (hL q h)⟩ (by rw [e1]; exact hz) (fun q h1 h2 => by rw [e1]; exact hk q h1 h2) T' rfl X'
  exact ⟨t2, st t2 a1, b1⟩
end CALLF
theorem pt_callF [G : zGh] {Ch : zCh} {d : Nat} {X Xc : zM} {yc : MethodName} {fr frc pc n mc ms : Nat} {f : List zV → zH d → zP d → Bool} {recv : va_W → List Value → Prop} {cA : Nat → ClassId} {D : va_G} {A : Nat → Prop} {MC MS : Nat} {p : Program} {l : Launch} {e : Env} {s : State} {m : MethodId} {args : Array Value} {below : List Frame} {meth : Method} {c : Code} {Q : State → Prop} {ls : Array Slot} {H : Heap} {locs : List Loc} {cells slots : Nat} {as : List zV} {st av : List Value} {h : zH d} {ws : va_W} {P : zP d}
    (hM : zMet Xc yc frc f) (run : zRun X Xc yc fr frc pc n mc ms recv) (Cx : zCx X cA D p s m args meth c A) (hmc : h.2.2.1 = mc) (hms : h.2.2.2 = ms) (hk : f as h P = true) (hHp : @zHp Ch d cA h ws) (hP : va_P D zcl ws H) (hD : va_D A ws) (hS : va_S A s.heap H locs) (hls : ls.size = X.2.2.1) (has : zRepL (zad cA ws) as av) (hcat : (st.map fun v => v.category).sum ≤ 8) (hn : av.length = n) (hrc : recv ws av) (hcb : cells + mc ≤ MC) (hsb : slots + ms ≤ MS)
    (kk : ∀ (Ch' : zCh) (r : zV) (h' : zH d) (ws' : va_W) (ov : Option Value) (H1 : Heap) (locs1 : List Loc), ((ov = none ∧ r = zU) ∨ ∃ x, ov = some x ∧ ∀ (_ : zGh), zRep (zad cA ws') r x) → P r h' = true → @zHp Ch' d cA h' ws' → zPre (zad cA ws) (zad cA ws') → va_P D zcl ws' H1 → va_D (va_A ws H.size) ws' → va_S A s.heap H1 locs1 → H.size ≤ H1.size → (∀ q, q < H.size → ¬ va_A ws H.size q → H1[q]? = H[q]?) → W p l e (zRm fr MC MS) s m args below meth c H1 locs1 (cells + mc) (slots + ms) Q (F0 m (pc + 3) ls (ov.toList ++ st))) :
    W p l e (zRm fr MC MS) s m args below meth c H locs cells slots Q (F0 m pc ls (av.reverse ++ st)) := by
  have hF := zfree hD hS Cx.2.2.2.2.2.2.1
  have hMet := @hM G Ch l cA D ws av as h P H.size hk has hHp Cx.2.2.2.2.2.2.2.2.1.2
  rw [hmc, hms] at hMet
  refine zrunF (run (l := l) (e := e) (below := below) (MC := MC) (MS := MS) (locs := locs) (cells := cells) (slots := slots) (ls := ls) (rest := st) Cx hP hrc hMet zPc_blind (fun U hU hW => ⟨rfl, by rw [hU], by rw [hU]; exact hP, va_K.moved hW.alike Cx.2.2.2.2.2.1, hD.weaken (fun _ _ _ _ => trivial), zStat_to Cx.2.2.2.2.2.2.2.2.2.2.1 hS hF hU hW.alike, zEx_moved hW Cx.2.2.2.2.2.2.2.2.2.2.2⟩) hn hls hcat (by omega) (by omega)) hS (fun q _ h => hF q h) hF (@fun Ch' r h' ws' ov H1 locs1 hov hPk hHp' hpre' hP' hD' hS' hz hfr => ?_)
  exact kk Ch' r h' ws' ov H1 locs1 hov hPk hHp' hpre' hP' hD' hS' hz hfr
/-- cells that a call doesn't reach -/
theorem va_P_kept {D : va_G} {ws wB : va_W} {H H1 : Heap} (hfr : ∀ q, q < H.size → ¬ va_A ws H.size q → H1[q]? = H[q]?) (hdis : ∀ (i k : Nat) (x y : Nat × va_E), wB[i]? = some x → ws[k]? = some y → x.1 ≠ y.1) (hP : va_P D zcl wB H) : va_P D zcl wB H1 := by
  intro i q hq
  have hlt := (hP i q hq).lt
  refine (hP i q hq).kept (hfr q.1 hlt ?_)
  rintro (⟨k', e, hk'⟩ | z)
  · exact hdis i k' q (q.1, e) hq hk' rfl
  · omega
end
section
/-! a long local against 0, the other way round -/
section OPS
variable {d : Nat} {X : zM} {fr : Nat} {P : zP d} {pc pc' tgt : Nat} {off : Int} {k kt kf : zK d}
theorem sm_lzne [G : zGh] {n : Nat} {z0 : Fin 2} (row1 : ∀ {p : Program} {l : Launch} {e : Env} {R : Room} {s : State} {m : MethodId} {args : Array Value} {below : List Frame} {meth : Method} {c : Code} {H : Heap} {locs : List Loc} {cells slots : Nat} {Q : State → Prop} {ls : Array Slot} {rest : List Value} {x : Int64}, p.tables.exec = Jvm.exec → c.code = X.2.1 → ls[n]? = some (.val (.long x)) → W p l e R s m args below meth c H locs cells slots Q (F0 m pc' ls (.long x :: rest)) → W p l e R s m args below meth c H locs cells slots Q (F0 m pc ls rest)) (d2 : decode X.2.1 pc' = .ok (.lconst z0, 1)) (ez : (z0 : Nat) = 0) (d3 : decode X.2.1 (pc' + 1) = .ok (.lcmp, 1)) (d4 : decode X.2.1 (pc' + 1 + 1) = .ok (.ifCond .ne off, 3)) (ht : ((pc' + 1 + 1 : Nat) : Int) + off = (tgt : Int)) (h2 : zSim X fr P tgt kf) (h1 : zSim X fr P (pc' + 1 + 1 + 3) kt) : zSim X fr P pc (xlz n kt kf) := by
  intro Ch cA D ad0 A MC MS p l e s m args below meth c ls st H locs cells slots L S h Cx hk R0
  obtain ⟨ws, hHp, hpre, hP, hD, hS, hL, hst, hcb, hsb⟩ := R0
  obtain ⟨v, hv, hk2⟩ := znth_t n hk
  match v, hv, hk2 with
  | .inr (.inr (.inl a)), hv, hk2 =>
    obtain ⟨x, hx, i, rfl, hi⟩ := zLoc_at hL hv (by intro q; cases q)
    have hk2 : cond (Nat.ble 18446744073709551616 a) (and (kt L S h) (zst (Nat.succ n) zU L (fun L => zst n (zL 1606938044258990275541962092341162602527285592350703190540288) L (fun L => kf L S h)))) (cond (Nat.beq a 0) (kt L S h) (kf L S h)) = true := hk2
    have e0 : Int64.ofNat ((z0 : Nat)) = 0 := by rw [ez]; rfl
    have key : (i = 0 → kt L S h = true) ∧ (¬ i = 0 → kf L S h = true ∨ zst (Nat.succ n) zU L (fun L => zst n (zL 1606938044258990275541962092341162602527285592350703190540288) L (fun L => kf L S h)) = true) := by
      cases hb : Nat.ble 18446744073709551616 a
      · rw [hb, cond_false] at hk2
        have hia := hi.1 (zble_f hb)
        cases hb0 : Nat.beq a 0
        · rw [hb0, cond_false] at hk2
          refine ⟨fun q => ?_, fun _ => Or.inl hk2⟩
          rw [q, zj_z] at hia
          rw [← hia] at hb0
          exact absurd hb0 (by decide)
        · rw [hb0, cond_true] at hk2
          refine ⟨fun _ => hk2, fun q => absurd (zj_inj (i := i) (j := 0) ?_) q⟩
          rw [hia, Nat.eq_of_beq_eq_true hb0]
          rfl
      · rw [hb, cond_true, Bool.and_eq_true] at hk2
        exact ⟨fun _ => hk2.1, fun _ => Or.inr hk2.2⟩
    refine row1 Cx.1 Cx.2.1 hx ?_
    refine lv_lconst Cx.1 Cx.2.1 d2 rfl ?_
    refine W.lcmp Cx.1 Cx.2.1 d3 ?_
    refine lv_if_ne Cx.1 Cx.2.1 d4 ht (fun hq => ?_) (fun hq => ?_)
    rotate_left
    · have hz : i = 0 := by
        rw [e0] at hq
        unfold lg_cmp at hq
        by_cases c1 : 0 < i
        · rw [if_pos c1] at hq; exact absurd hq (by decide)
        · rw [if_neg c1] at hq
          by_cases c2 : i = 0
          · exact c2
          · rw [if_neg c2] at hq; exact absurd hq (by decide)
      exact h1 Ch cA D ad0 A MC MS p l e s m args below meth c ls _ H locs cells slots L _ h Cx (key.1 hz) ⟨ws, hHp, hpre, hP, hD, hS, hL, hst, hcb, hsb⟩
    · have hz : ¬ i = 0 := fun q => hq (by
        rw [e0, q]
        rfl)
      rcases key.2 hz with g | g
      · exact h2 Ch cA D ad0 A MC MS p l e s m args below meth c ls _ H locs cells slots L _ h Cx g ⟨ws, hHp, hpre, hP, hD, hS, hL, hst, hcb, hsb⟩
      · obtain ⟨L1, y1, y2, y3, g⟩ := zst_t (Nat.succ n) g
        obtain ⟨L2, w1, w2, w3, g⟩ := zst_t n g
        obtain ⟨b1, lv, b2, b3⟩ := hL
        have hL2 : zLoc (zad cA ws) X.2.2.1 L2 ls := by
          refine ⟨by omega, lv, b2, fun q w hw => ?_⟩
          rw [w3 q] at hw
          unfold zsta at hw
          by_cases c1 : q = n
          · rw [if_pos c1] at hw
            cases hw
            rw [c1]
            rcases b3 n _ hv with z | ⟨x, hx', i', rfl, hi'⟩
            · cases z
            · have hl2 := b2.2.2 _ hx'
              rw [show ((n, Value.long i') : Nat × Value).1 = n from rfl, hx] at hl2
              cases hl2
              refine Or.inr ⟨_, hx', i, rfl, fun z => absurd z (by decide), fun _ => ?_⟩
              have hp : 0 < zj i := Nat.pos_of_ne_zero (fun z => hz (zj_inj (by rw [z]; rfl)))
              have hl := zj_lt i
              exact ⟨by show 1 ≤ zj i; omega, by show zj i < 18446744073709551616; omega⟩
          · rw [if_neg c1] at hw
            have y3q := y3 q
            unfold zsta at y3q
            have rest : ∀ u, L1[q]? = some u → u = zU ∨ ∃ x : Value, (q, x) ∈ lv ∧ zRep (zad cA ws) u x := by
              intro u hu
              rw [y3q] at hu
              by_cases c2 : q = Nat.succ n
              · rw [if_pos c2] at hu
                cases hu
                exact Or.inl rfl
              · rw [if_neg c2] at hu
                by_cases c3 : q + 1 = Nat.succ n
                · exact absurd (show q = n by omega) c1
                · rw [if_neg c3] at hu
                  exact b3 q u hu
            by_cases c4 : q + 1 = n
            · rw [if_pos c4] at hw
              obtain ⟨u, hu, hw2⟩ := Option.map_eq_some_iff.mp hw
              rcases rest u hu with z | ⟨x, hx', hr⟩
              · rw [z] at hw2
                exact Or.inl hw2.symm
              · match u, hr, hw2 with
                | .inl b, hr, hw2 => exact Or.inr ⟨x, hx', by rw [← hw2]; exact hr⟩
                | .inr (.inl b), hr, hw2 => exact Or.inr ⟨x, hx', by rw [← hw2]; exact hr⟩
                | .inr (.inr (.inl b)), hr, hw2 => exact Or.inl hw2.symm
                | .inr (.inr (.inr b)), hr, hw2 => exact Or.inr ⟨x, hx', by rw [← hw2]; exact hr⟩
            · rw [if_neg c4] at hw
              exact rest w hw
        exact h2 Ch cA D ad0 A MC MS p l e s m args below meth c ls _ H locs cells slots L2 _ h Cx g ⟨ws, hHp, hpre, hP, hD, hS, hL2, hst, hcb, hsb⟩
end OPS
end
section
/-! longs in arrays that aren't 0 -/
theorem zNZ_e : zjr 1 18446744073709551616 = 1606938044258990275541962092341162602526925360265662480515072 := by decide
theorem zJs_nz {i : Int64} (h : 1 ≤ zj i) : zJs 1606938044258990275541962092341162602526925360265662480515072 i := by
  rw [← zNZ_e]
  exact zjr_ok h (zj_lt i)
theorem zJs_nzi {i : Int64} (h : zJs 1606938044258990275541962092341162602526925360265662480515072 i) : 1 ≤ zj i := by
  have h1 := (h.2 (by decide)).1
  have e : 1606938044258990275541962092341162602526925360265662480515072 / 4722366482869645213696 % 18446744073709551616 = 1 := by decide
  rw [e] at h1
  exact h1
def zcapN (v : Nat) : Nat := cond (Nat.beq v 1606938044258990275541962092341162602526925360265662480515072) 18446744073709551617 (zcapj v)
theorem zAJ_upN {len x n v : Nat} {f : Nat → Int64} {i : Int64} (hf : zAJ len x f) (hi : zJs v i) : zAJ len (zup 72 x n (zcapN v)) (vp_updL f n i) := by
  unfold zcapN
  cases hb : Nat.beq v 1606938044258990275541962092341162602526925360265662480515072
  · rw [cond_false]
    exact zAJ_up hf hi.1
  · rw [cond_true]
    have e := Nat.eq_of_beq_eq_true hb
    rw [e] at hi
    intro j hj
    by_cases q : j = n
    · subst q
      rw [zwd_up_same _ _ _ _ (by decide), pk_uLs]
      exact ⟨fun z => absurd z (by decide), fun _ => zJs_nzi hi⟩
    · rw [zwd_up_ne _ _ _ _ _ (by decide) (fun z => q z.symm), pk_uLn q]
      exact hf j hj
section OPS
variable {d : Nat} {X : zM} {fr : Nat} {P : zP d} {pc tgt : Nat} {off : Int} {k kt kf : zK d}
noncomputable def xlalN (k : zK d) : zK d := fun L S h => zpI S (fun i S => zpR S (fun r S => zat h r (fun _ _ _ kd len x => cond (Nat.beq kd 2) (cond (Nat.ble len i) false (zF (fun v => cond (Nat.beq v 18446744073709551617) (k L (zL 1606938044258990275541962092341162602526925360265662480515072 :: S) h) (k L (zL v :: S) h)) (zwd 72 x i))) false)))
theorem sm_laloadN [G : zGh] (dg : decode X.2.1 pc = .ok (.laload, 1)) (hs : zSim X fr P (pc + 1) k) : zSim X fr P pc (xlalN k) := by
  intro Ch cA D ad0 A MC MS p l e s m args below meth c ls st H locs cells slots L S h Cx hk R0
  obtain ⟨ws, hHp, hpre, hP, hD, hS, hL, hst, hcb, hsb⟩ := R0
  obtain ⟨n, S, rfl, hk1⟩ := zpI_t hk
  obtain ⟨r, S, rfl, hk2⟩ := zpR_t hk1
  obtain ⟨i, st, rfl, hi, hst1⟩ := zRepL_I hst
  obtain ⟨o, st, rfl, ho, hst2⟩ := zRepL_R hst1
  obtain ⟨j, kd, len, x, rfl, hg, hk3⟩ := zat_t hk2
  obtain ⟨a, en, rfl, hwi, hcell⟩ := zat_w hHp ho
  rw [hg] at hcell
  have hk3 : cond (Nat.beq kd 2) (cond (Nat.ble len n) false (zF (fun v => cond (Nat.beq v 18446744073709551617) (k L (zL 1606938044258990275541962092341162602526925360265662480515072 :: S) h) (k L (zL v :: S) h)) (zwd 72 x n))) false = true := hk3
  cases hb : Nat.beq kd 2
  · rw [hb] at hk3
    cases hk3
  · have hb2 := Nat.eq_of_beq_eq_true hb
    subst hb2
    rw [hb, cond_true] at hk3
    cases hbl : Nat.ble len n
    · rw [hbl, cond_false, zF_eq] at hk3
      have hk4 : cond (Nat.beq (zwd 72 x n) 18446744073709551617) (k L (zL 1606938044258990275541962092341162602526925360265662480515072 :: S) h) (k L (zL (zwd 72 x n) :: S) h) = true := hk3
      obtain ⟨hlen, f, rfl, hf⟩ := zCell_j hcell
      obtain ⟨g1, g2, g3⟩ := zi_idx hi.1 hlen hbl
      cases hz : Nat.beq (zwd 72 x n) 18446744073709551617
      · rw [hz, cond_false] at hk4
        exact va_lald Cx.1 Cx.2.1 Cx.2.2.2.2.2.1 hP j 2 hwi rfl g1 dg (hs Ch cA D ad0 A MC MS p l e s m args below meth c ls _ H locs cells slots L _ h Cx hk4 ⟨ws, hHp, hpre, hP, hD, hS, hL, ⟨⟨_, rfl, by rw [g2]; exact zJs_of (hf n g3).1 (zwd_lt _ _ _)⟩, hst2⟩, hcb, hsb⟩)
      · rw [hz, cond_true] at hk4
        exact va_lald Cx.1 Cx.2.1 Cx.2.2.2.2.2.1 hP j 2 hwi rfl g1 dg (hs Ch cA D ad0 A MC MS p l e s m args below meth c ls _ H locs cells slots L _ h Cx hk4 ⟨ws, hHp, hpre, hP, hD, hS, hL, ⟨⟨_, rfl, by rw [g2]; exact zJs_nz ((hf n g3).2 (Nat.eq_of_beq_eq_true hz))⟩, hst2⟩, hcb, hsb⟩)
    · rw [hbl] at hk3
      cases hk3
noncomputable def xlasN (k : zK d) : zK d := fun L S h => zpL S (fun v S => zpI S (fun i S => zpR S (fun r S => zat h r (fun t u j kd len x => cond (Nat.beq kd 2) (cond (Nat.ble len i) false (zF (fun y => zsetK d t j (kd, len, y) (fun t => k L S (t, u))) (zup 72 x i (zcapN v)))) false))))
theorem sm_lastoreN [G : zGh] (dg : decode X.2.1 pc = .ok (.lastore, 1)) (hs : zSim X fr P (pc + 1) k) : zSim X fr P pc (xlasN k) := by
  intro Ch cA D ad0 A MC MS p l e s m args below meth c ls st H locs cells slots L S h Cx hk R0
  obtain ⟨ws, hHp, hpre, hP, hD, hS, hL, hst, hcb, hsb⟩ := R0
  obtain ⟨v, S, rfl, hk0⟩ := zpL_t hk
  obtain ⟨n, S, rfl, hk1⟩ := zpI_t hk0
  obtain ⟨r, S, rfl, hk2⟩ := zpR_t hk1
  obtain ⟨y, st, rfl, hy, hst0⟩ := zRepL_L hst
  obtain ⟨i, st, rfl, hi, hst1⟩ := zRepL_I hst0
  obtain ⟨o, st, rfl, ho, hst2⟩ := zRepL_R hst1
  obtain ⟨j, kd, len, x, rfl, hgt, hk3⟩ := zat_t hk2
  obtain ⟨a, en, rfl, hwi, hcell⟩ := zat_w hHp ho
  rw [hgt] at hcell
  have hk3 : cond (Nat.beq kd 2) (cond (Nat.ble len n) false (zF (fun y => zsetK d h.1 j (kd, len, y) (fun t => k L S (t, h.2))) (zup 72 x n (zcapN v)))) false = true := hk3
  cases hb : Nat.beq kd 2
  · rw [hb] at hk3
    cases hk3
  · have hb2 := Nat.eq_of_beq_eq_true hb
    subst hb2
    rw [hb, cond_true] at hk3
    cases hbl : Nat.ble len n
    · rw [hbl, cond_false, zF_eq, zsetK_eq] at hk3
      obtain ⟨hlen, f, rfl, hf⟩ := zCell_j hcell
      obtain ⟨g1, g2, g3⟩ := zi_idx hi.1 hlen hbl
      refine va_last Cx.1 Cx.2.1 Cx.2.2.2.2.2.1 hP hD hS j 2 hwi rfl g1 dg (fun H1 locs1 hP1 hD1 hS1 => ?_)
      have hz := zad_set (cA := cA) (e' := .inl (cA 2, len, .inr (.inl (vp_updL f i.toNatClampNeg y)))) hwi
      exact hs Ch cA D ad0 A MC MS p l e s m args below meth c ls _ H1 locs1 cells slots L _ _ Cx hk3 ⟨_, zHp_set hHp hwi (zCell_jk hlen (by rw [g2]; exact zAJ_upN hf hy)), by rw [hz]; exact hpre, hP1, hD1, hS1, by rw [hz]; exact hL, by rw [hz]; exact hst2, hcb, hsb⟩
    · rw [hbl] at hk3
      cases hk3
/-- a long of an array against 0: what is known of it behind the test stays -/
noncomputable def xlalz (kt kf : zK d) : zK d := fun L S h => zpI S (fun i S => zpR S (fun r S => zat h r (fun t u j kd len x => cond (Nat.beq kd 2) (cond (Nat.ble len i) false (zF (fun v => cond (Nat.ble 18446744073709551616 v) (cond (Nat.beq v 18446744073709551617) (kf L S h) (and (kt L S h) (zsetK d t j (kd, len, zup 72 x i 18446744073709551617) (fun t => kf L S (t, u))))) (cond (Nat.beq v 0) (kt L S h) (kf L S h))) (zwd 72 x i))) false)))
theorem sm_lalz [G : zGh] {z0 : Fin 2} (d1 : decode X.2.1 pc = .ok (.laload, 1)) (d2 : decode X.2.1 (pc + 1) = .ok (.lconst z0, 1)) (ez : (z0 : Nat) = 0) (d3 : decode X.2.1 (pc + 1 + 1) = .ok (.lcmp, 1)) (d4 : decode X.2.1 (pc + 1 + 1 + 1) = .ok (.ifCond .ne off, 3)) (ht : ((pc + 1 + 1 + 1 : Nat) : Int) + off = (tgt : Int)) (h2 : zSim X fr P tgt kf) (h1 : zSim X fr P (pc + 1 + 1 + 1 + 3) kt) : zSim X fr P pc (xlalz kt kf) := by
  intro Ch cA D ad0 A MC MS p l e s m args below meth c ls st H locs cells slots L S h Cx hk R0
  obtain ⟨ws, hHp, hpre, hP, hD, hS, hL, hst, hcb, hsb⟩ := R0
  obtain ⟨n, S, rfl, hk1⟩ := zpI_t hk
  obtain ⟨r, S, rfl, hk2⟩ := zpR_t hk1
  obtain ⟨i, st, rfl, hi, hst1⟩ := zRepL_I hst
  obtain ⟨o, st, rfl, ho, hst2⟩ := zRepL_R hst1
  obtain ⟨j, kd, len, x, rfl, hg, hk3⟩ := zat_t hk2
  obtain ⟨a, en, rfl, hwi, hcell⟩ := zat_w hHp ho
  rw [hg] at hcell
  have hk3 : cond (Nat.beq kd 2) (cond (Nat.ble len n) false (zF (fun v => cond (Nat.ble 18446744073709551616 v) (cond (Nat.beq v 18446744073709551617) (kf L S h) (and (kt L S h) (zsetK d h.1 j (kd, len, zup 72 x n 18446744073709551617) (fun t => kf L S (t, h.2))))) (cond (Nat.beq v 0) (kt L S h) (kf L S h))) (zwd 72 x n))) false = true := hk3
  cases hb : Nat.beq kd 2
  · rw [hb] at hk3
    cases hk3
  · have hb2 := Nat.eq_of_beq_eq_true hb
    subst hb2
    rw [hb, cond_true] at hk3
    cases hbl : Nat.ble len n
    · rw [hbl, cond_false, zF_eq, zsetK_eq] at hk3
      have hk4 : cond (Nat.ble 18446744073709551616 (zwd 72 x n)) (cond (Nat.beq (zwd 72 x n) 18446744073709551617) (kf L S h) (and (kt L S h) (kf L S (zset d h.1 j (2, len, zup 72 x n 18446744073709551617), h.2)))) (cond (Nat.beq (zwd 72 x n) 0) (kt L S h) (kf L S h)) = true := hk3
      obtain ⟨hlen, f, rfl, hf⟩ := zCell_j hcell
      obtain ⟨g1, g2, g3⟩ := zi_idx hi.1 hlen hbl
      obtain ⟨hf1, hf2⟩ := hf n g3
      have e0 : Int64.ofNat ((z0 : Nat)) = 0 := by rw [ez]; rfl
      have key : (f n = 0 → kt L S h = true) ∧ (¬ f n = 0 → kf L S h = true ∨ kf L S (zset d h.1 j (2, len, zup 72 x n 18446744073709551617), h.2) = true) := by
        cases hu : Nat.ble 18446744073709551616 (zwd 72 x n)
        · rw [hu, cond_false] at hk4
          have hz := hf1 (zble_f hu)
          cases hv : Nat.beq (zwd 72 x n) 0
          · rw [hv, cond_false] at hk4
            refine ⟨fun q => ?_, fun _ => Or.inl hk4⟩
            rw [q, zj_z] at hz
            rw [← hz] at hv
            exact absurd hv (by decide)
          · rw [hv, cond_true] at hk4
            refine ⟨fun _ => hk4, fun q => absurd (zj_zero.mp ?_) q⟩
            rw [hz, Nat.eq_of_beq_eq_true hv]
        · rw [hu, cond_true] at hk4
          cases hv : Nat.beq (zwd 72 x n) 18446744073709551617
          · rw [hv, cond_false, Bool.and_eq_true] at hk4
            exact ⟨fun _ => hk4.1, fun _ => Or.inr hk4.2⟩
          · rw [hv, cond_true] at hk4
            refine ⟨fun q => ?_, fun _ => Or.inl hk4⟩
            have := hf2 (Nat.eq_of_beq_eq_true hv)
            rw [q, zj_z] at this
            exact absurd this (by decide)
      refine va_lald Cx.1 Cx.2.1 Cx.2.2.2.2.2.1 hP j 2 hwi rfl g1 d1 ?_
      rw [g2]
      refine lv_lconst Cx.1 Cx.2.1 d2 rfl ?_
      refine W.lcmp Cx.1 Cx.2.1 d3 ?_
      refine lv_if_ne Cx.1 Cx.2.1 d4 ht (fun hq => ?_) (fun hq => ?_)
      rotate_left
      · have hz : f n = 0 := by
          rw [e0] at hq
          unfold lg_cmp at hq
          by_cases c1 : 0 < f n
          · rw [if_pos c1] at hq; exact absurd hq (by decide)
          · rw [if_neg c1] at hq
            by_cases c2 : f n = 0
            · exact c2
            · rw [if_neg c2] at hq; exact absurd hq (by decide)
        exact h1 Ch cA D ad0 A MC MS p l e s m args below meth c ls _ H locs cells slots L _ h Cx (key.1 hz) ⟨ws, hHp, hpre, hP, hD, hS, hL, hst2, hcb, hsb⟩
      · have hz : ¬ f n = 0 := fun q => hq (by
          rw [e0, q]
          rfl)
        rcases key.2 hz with g | g
        · exact h2 Ch cA D ad0 A MC MS p l e s m args below meth c ls _ H locs cells slots L _ h Cx g ⟨ws, hHp, hpre, hP, hD, hS, hL, hst2, hcb, hsb⟩
        · refine h2 Ch cA D ad0 A MC MS p l e s m args below meth c ls _ H locs cells slots L _ _ Cx g ⟨ws, zHp_cell hHp hwi (zCell_jk hlen (fun q hq2 => ?_)), hpre, hP, hD, hS, hL, hst2, hcb, hsb⟩
          by_cases c1 : q = n
          · subst c1
            rw [zwd_up_same _ _ _ _ (by decide)]
            refine ⟨fun z => absurd z (by decide), fun _ => ?_⟩
            rcases Nat.eq_zero_or_pos (zj (f q)) with z | z
            · exact absurd (zj_zero.mp z) hz
            · exact z
          · rw [zwd_up_ne _ _ _ _ _ (by decide) (fun z => c1 z.symm)]
            exact hf q hq2
    · rw [hbl] at hk3
      cases hk3
end OPS
end
section
/-! public methods, by program -/

noncomputable def bX8_slotsInUset_42 {d : Nat} (P : zP d) (r12 : zK d) : zK d := (xincR 3 1 r12)
set_option maxRecDepth 100000 in
set_option maxHeartbeats 4000000 in
theorem sbX8_slotsInUset_42 {d : Nat} [zGh] (P : zP d) (r12 : zK d) (hr12 : zSimJ 1 X_X8_slotsInUse 1 P 12 r12) : zSim X_X8_slotsInUse 1 P 42 (bX8_slotsInUset_42 P r12) := by
  unfold bX8_slotsInUset_42
  refine sm_iincR (pc := 42) (n := 3) dX8_slotsInUse_42 zc_i_1 ?_
  refine sm_goto (pc := 45) (tgt := 12) dX8_slotsInUse_45 (by decide) ?_
  exact hr12.use
noncomputable def lX8_slotsInUset_12 {d : Nat} (P : zP d) (r12 : zK d) (r4 : zK d) : zK d := (xild 3 (xaldV 0 (xgfR 24 6 (xgfI 23 1 (xcmpS tgeR rlGe rhS rlS rhLt (xincR 2 1 r4) (xaldV 0 (xgfR 24 2 (xild 2 (xaaT (xild 3 (xlal (xpL 0 (xlcmpR (xjn (wkL 1 4294967296 wkE) (zsp [] 1) (bX8_slotsInUset_42 P r12) (fun j42 => (xif0S teqR rlEq rhEq rlNe rhNe j42 (xild 1 (xpI 1 (xild 2 (xbin zshl (xbin zor (xist 1 j42))))))))))))))))))))))
set_option maxRecDepth 100000 in
set_option maxHeartbeats 4000000 in
theorem slX8_slotsInUset_12 {d : Nat} [zGh] (P : zP d) (r12 : zK d) (r4 : zK d) (hr12 : zSimJ 1 X_X8_slotsInUse 1 P 12 r12) (hr4 : zSimJ 1 X_X8_slotsInUse 1 P 4 r4) : zSim X_X8_slotsInUse 1 P 12 (lX8_slotsInUset_12 P r12 r4) := by
  unfold lX8_slotsInUset_12
  refine sm_iload_n (pc := 12) (n := 3) dX8_slotsInUse_12 rfl ?_
  refine sm_aloadV_n (pc := 13) (n := 0) dX8_slotsInUse_13 rfl ?_
  refine gf_X8_40 (pc := 14) rfl dX8_slotsInUse_14 ?_
  refine gf_X8_74 (pc := 17) rfl dX8_slotsInUse_17 ?_
  refine sm_icmpS_ge (pc := 20) (tgt := 48) dX8_slotsInUse_20 (by decide) ?_ ?_
  · skip
    refine sm_iincR (pc := 48) (n := 2) dX8_slotsInUse_48 zc_i_1 ?_
    refine sm_goto (pc := 51) (tgt := 4) dX8_slotsInUse_51 (by decide) ?_
    exact hr4.use
  · skip
    refine sm_aloadV_n (pc := 23) (n := 0) dX8_slotsInUse_23 rfl ?_
    refine gf_X8_23 (pc := 24) rfl dX8_slotsInUse_24 ?_
    refine sm_iload_n (pc := 27) (n := 2) dX8_slotsInUse_27 rfl ?_
    refine sm_aaloadT (pc := 28) dX8_slotsInUse_28 ?_
    refine sm_iload_n (pc := 29) (n := 3) dX8_slotsInUse_29 rfl ?_
    refine sm_laload (pc := 30) dX8_slotsInUse_30 ?_
    refine sm_lconst (pc := 31) dX8_slotsInUse_31 zc_l_0 ?_
    refine sm_lcmpR (pc := 32) dX8_slotsInUse_32 ?_
    refine sm_jn (pc := 33) (pc' := 42) (j := 1) (wkL_ok wkE_ok) (zsp_ok _ _) (fun G0 hG0 => @sbX8_slotsInUset_42 d G0 P r12 (hr12.mv hG0 (by decide))) (fun j42 hj42 => ?_)
    refine sm_ifS_eq (pc := 33) (tgt := 42) dX8_slotsInUse_33 (by decide) ?_ ?_
    · skip
      exact hj42.use
    · skip
      refine sm_iload_n (pc := 36) (n := 1) dX8_slotsInUse_36 rfl ?_
      refine sm_iconst (pc := 37) dX8_slotsInUse_37 zc_i_1 ?_
      refine sm_iload_n (pc := 38) (n := 2) dX8_slotsInUse_38 rfl ?_
      refine sm_ishl (pc := 39) dX8_slotsInUse_39 ?_
      refine sm_ior (pc := 40) dX8_slotsInUse_40 ?_
      refine sm_istore_n (pc := 41) (n := 1) dX8_slotsInUse_41 rfl ?_
      exact hj42.use
noncomputable def lX8_slotsInUset_4 {d : Nat} (P : zP d) (r4 : zK d) : zK d := (xild 2 (xpI 6 (xcmpS tgeR rlGe rhS rlS rhLt (xild 1 (xiret P)) (xpI 0 (xist 3 (xloop (fun r12 => (lX8_slotsInUset_12 P r12 r4)) 100000))))))
set_option maxRecDepth 100000 in
set_option maxHeartbeats 4000000 in
theorem slX8_slotsInUset_4 {d : Nat} [zGh] (P : zP d) (r4 : zK d) (hr4 : zSimJ 1 X_X8_slotsInUse 1 P 4 r4) : zSim X_X8_slotsInUse 1 P 4 (lX8_slotsInUset_4 P r4) := by
  unfold lX8_slotsInUset_4
  refine sm_iload_n (pc := 4) (n := 2) dX8_slotsInUse_4 rfl ?_
  refine sm_bipush (pc := 5) dX8_slotsInUse_5 zc_b_6 ?_
  refine sm_icmpS_ge (pc := 7) (tgt := 54) dX8_slotsInUse_7 (by decide) ?_ ?_
  · skip
    refine sm_iload_n (pc := 54) (n := 1) dX8_slotsInUse_54 rfl ?_
    exact sm_ireturn (pc := 55) dX8_slotsInUse_55 rfl
  · skip
    refine sm_iconst (pc := 10) dX8_slotsInUse_10 zc_i_0 ?_
    refine sm_istore_n (pc := 11) (n := 3) dX8_slotsInUse_11 rfl ?_
    exact (sm_loopJ (j := 1) (fun G1 hG1 r12 hr12 => @slX8_slotsInUset_12 d G1 P r12 r4 hr12 (hr4.mv hG1 (by decide))) _).use
noncomputable def b_X8_slotsInUset {d : Nat} (P : zP d) : zK d := (xpI 0 (xist 1 (xpI 0 (xist 2 (xloop (fun r4 => (lX8_slotsInUset_4 P r4)) 100000)))))
set_option maxRecDepth 100000 in
set_option maxHeartbeats 4000000 in
theorem s_X8_slotsInUset {d : Nat} [zGh] (P : zP d) : zSim X_X8_slotsInUse 1 P 0 (b_X8_slotsInUset P) := by
  unfold b_X8_slotsInUset
  refine sm_iconst (pc := 0) dX8_slotsInUse_0 zc_i_0 ?_
  refine sm_istore_n (pc := 1) (n := 1) dX8_slotsInUse_1 rfl ?_
  refine sm_iconst (pc := 2) dX8_slotsInUse_2 zc_i_0 ?_
  refine sm_istore_n (pc := 3) (n := 2) dX8_slotsInUse_3 rfl ?_
  exact (sm_loopJ (j := 1) (fun G1 hG1 r4 hr4 => @slX8_slotsInUset_4 d G1 P r4 hr4) _).use
noncomputable def f_X8_slotsInUset {d : Nat} : List zV → zH d → zP d → Bool := zfn 4 (b_X8_slotsInUset )
theorem m_X8_slotsInUset {d : Nat} : zMet (d := d) X_X8_slotsInUse yX8_slotsInUse 1 (f_X8_slotsInUset ) := zmet_mk (X := X_X8_slotsInUse) (by decide) rfl rfl (fun P => s_X8_slotsInUset P)

noncomputable def bX8_lookt_127 {d : Nat} (P : zP d) : zK d := (xpI 4294967295 (xiret P))
set_option maxRecDepth 100000 in
set_option maxHeartbeats 4000000 in
theorem sbX8_lookt_127 {d : Nat} [zGh] (P : zP d) : zSim X_X8_look 3 P 127 (bX8_lookt_127 P) := by
  unfold bX8_lookt_127
  refine sm_iconst (pc := 127) dX8_look_127 zc_i_m1 ?_
  exact sm_ireturn (pc := 128) dX8_look_128 rfl
noncomputable def bX8_lookt_52 {d : Nat} (P : zP d) : zK d := (xaldV 0 (xgfR 24 6 (xgfI 23 0 (xiret P))))
set_option maxRecDepth 100000 in
set_option maxHeartbeats 4000000 in
theorem sbX8_lookt_52 {d : Nat} [zGh] (P : zP d) : zSim X_X8_look 3 P 52 (bX8_lookt_52 P) := by
  unfold bX8_lookt_52
  refine sm_aloadV_n (pc := 52) (n := 0) dX8_look_52 rfl ?_
  refine gf_X8_40 (pc := 53) rfl dX8_look_53 ?_
  refine gf_X8_176 (pc := 56) rfl dX8_look_56 ?_
  exact sm_ireturn (pc := 59) dX8_look_59 rfl
noncomputable def bX8_lookt_60 {d : Nat} (P : zP d) : zK d := (xaldV 0 (xgfR 24 7 (xgfI 21 1 (xiret P))))
set_option maxRecDepth 100000 in
set_option maxHeartbeats 4000000 in
theorem sbX8_lookt_60 {d : Nat} [zGh] (P : zP d) : zSim X_X8_look 3 P 60 (bX8_lookt_60 P) := by
  unfold bX8_lookt_60
  refine sm_aloadV_n (pc := 60) (n := 0) dX8_look_60 rfl ?_
  refine gf_X8_47 (pc := 61) rfl dX8_look_61 ?_
  refine gf_X8_179 (pc := 64) rfl dX8_look_64 ?_
  exact sm_ireturn (pc := 67) dX8_look_67 rfl
noncomputable def bX8_lookt_68 {d : Nat} (P : zP d) : zK d := (xaldV 0 (xgfR 24 6 (xgfI 23 1 (xiret P))))
set_option maxRecDepth 100000 in
set_option maxHeartbeats 4000000 in
theorem sbX8_lookt_68 {d : Nat} [zGh] (P : zP d) : zSim X_X8_look 3 P 68 (bX8_lookt_68 P) := by
  unfold bX8_lookt_68
  refine sm_aloadV_n (pc := 68) (n := 0) dX8_look_68 rfl ?_
  refine gf_X8_40 (pc := 69) rfl dX8_look_69 ?_
  refine gf_X8_74 (pc := 72) rfl dX8_look_72 ?_
  exact sm_ireturn (pc := 75) dX8_look_75 rfl
noncomputable def bX8_lookt_76 {d : Nat} (P : zP d) : zK d := (xaldV 0 (xgfR 24 7 (xgfI 21 3 (xiret P))))
set_option maxRecDepth 100000 in
set_option maxHeartbeats 4000000 in
theorem sbX8_lookt_76 {d : Nat} [zGh] (P : zP d) : zSim X_X8_look 3 P 76 (bX8_lookt_76 P) := by
  unfold bX8_lookt_76
  refine sm_aloadV_n (pc := 76) (n := 0) dX8_look_76 rfl ?_
  refine gf_X8_47 (pc := 77) rfl dX8_look_77 ?_
  refine gf_X8_291 (pc := 80) rfl dX8_look_80 ?_
  exact sm_ireturn (pc := 83) dX8_look_83 rfl
noncomputable def bX8_lookt_84 {d : Nat} (P : zP d) : zK d := (xaldV 0 (xgfR 24 7 (xgfR 21 10 (xgfI 16 3 (xiret P)))))
set_option maxRecDepth 100000 in
set_option maxHeartbeats 4000000 in
theorem sbX8_lookt_84 {d : Nat} [zGh] (P : zP d) : zSim X_X8_look 3 P 84 (bX8_lookt_84 P) := by
  unfold bX8_lookt_84
  refine sm_aloadV_n (pc := 84) (n := 0) dX8_look_84 rfl ?_
  refine gf_X8_47 (pc := 85) rfl dX8_look_85 ?_
  refine gf_X8_152 (pc := 88) rfl dX8_look_88 ?_
  refine gf_X8_236 (pc := 91) rfl dX8_look_91 ?_
  exact sm_ireturn (pc := 94) dX8_look_94 rfl
noncomputable def bX8_lookt_95 {d : Nat} (P : zP d) : zK d := (xaldV 0 (xgfR 24 6 (xgfI 23 2 (xiret P))))
set_option maxRecDepth 100000 in
set_option maxHeartbeats 4000000 in
theorem sbX8_lookt_95 {d : Nat} [zGh] (P : zP d) : zSim X_X8_look 3 P 95 (bX8_lookt_95 P) := by
  unfold bX8_lookt_95
  refine sm_aloadV_n (pc := 95) (n := 0) dX8_look_95 rfl ?_
  refine gf_X8_40 (pc := 96) rfl dX8_look_96 ?_
  refine gf_X8_266 (pc := 99) rfl dX8_look_99 ?_
  exact sm_ireturn (pc := 102) dX8_look_102 rfl
noncomputable def bX8_lookt_103 {d : Nat} (P : zP d) : zK d := (xaldV 0 (xgfR 24 4 (xgfI 22 1 (xiret P))))
set_option maxRecDepth 100000 in
set_option maxHeartbeats 4000000 in
theorem sbX8_lookt_103 {d : Nat} [zGh] (P : zP d) : zSim X_X8_look 3 P 103 (bX8_lookt_103 P) := by
  unfold bX8_lookt_103
  refine sm_aloadV_n (pc := 103) (n := 0) dX8_look_103 rfl ?_
  refine gf_X8_33 (pc := 104) rfl dX8_look_104 ?_
  refine gf_X8_85 (pc := 107) rfl dX8_look_107 ?_
  exact sm_ireturn (pc := 110) dX8_look_110 rfl
noncomputable def bX8_lookt_111 {d : Nat} (P : zP d) : zK d := (xaldV 0 (xcV 24 1 0 0 (zstr f_X8_slotsInUset) (xiret P)))
set_option maxRecDepth 100000 in
set_option maxHeartbeats 4000000 in
theorem sbX8_lookt_111 {d : Nat} [zGh] (P : zP d) : zSim X_X8_look 3 P 111 (bX8_lookt_111 P) := by
  unfold bX8_lookt_111
  refine sm_aloadV_n (pc := 111) (n := 0) dX8_look_111 rfl ?_
  refine sm_cV (pc := 112) (ci := 8) (n := 1) (mc := 0) (ms := 0) rfl (zMet_str m_X8_slotsInUset) (cr_X8_294 (X := X_X8_look) (fr := 3) (frc := 1) (pc := 112) (mc := 0) (ms := 0) rfl (by decide) dX8_look_112) ?_
  exact sm_ireturn (pc := 115) dX8_look_115 rfl
noncomputable def bX8_lookt_116 {d : Nat} (P : zP d) : zK d := (xaldV 0 (xgfR 24 7 (xgfR 21 10 (xcV 16 1 0 0 (zstr f_X0_withoutDefect) (xiret P)))))
set_option maxRecDepth 100000 in
set_option maxHeartbeats 4000000 in
theorem sbX8_lookt_116 {d : Nat} [zGh] (P : zP d) : zSim X_X8_look 3 P 116 (bX8_lookt_116 P) := by
  unfold bX8_lookt_116
  refine sm_aloadV_n (pc := 116) (n := 0) dX8_look_116 rfl ?_
  refine gf_X8_47 (pc := 117) rfl dX8_look_117 ?_
  refine gf_X8_152 (pc := 120) rfl dX8_look_120 ?_
  refine sm_cV (pc := 123) (ci := 0) (n := 1) (mc := 0) (ms := 0) rfl (zMet_str m_X0_withoutDefect) (cr_X8_298 (X := X_X8_look) (fr := 3) (frc := 2) (pc := 123) (mc := 0) (ms := 0) rfl (by decide) dX8_look_123) ?_
  exact sm_ireturn (pc := 126) dX8_look_126 rfl
noncomputable def b_X8_lookt {d : Nat} (P : zP d) : zK d := (xild 1 (xtswR 8 [(bX8_lookt_52 P), (bX8_lookt_60 P), (bX8_lookt_68 P), (bX8_lookt_76 P), (bX8_lookt_84 P), (bX8_lookt_95 P), (bX8_lookt_103 P), (bX8_lookt_111 P), (bX8_lookt_116 P)] (bX8_lookt_127 P)))
set_option maxRecDepth 100000 in
set_option maxHeartbeats 4000000 in
theorem s_X8_lookt {d : Nat} [zGh] (P : zP d) : zSim X_X8_look 3 P 0 (b_X8_lookt P) := by
  unfold b_X8_lookt
  refine sm_iload_n (pc := 0) (n := 1) dX8_look_0 rfl ?_
  exact sm_tswR (pc := 1) (n := 8) (tdf := 127) [52, 60, 68, 76, 84, 95, 103, 111, 116] rfl (by decide) dX8_look_1 rfl (by decide +kernel) (by decide) (sbX8_lookt_127 P) ⟨sbX8_lookt_52 P, sbX8_lookt_60 P, sbX8_lookt_68 P, sbX8_lookt_76 P, sbX8_lookt_84 P, sbX8_lookt_95 P, sbX8_lookt_103 P, sbX8_lookt_111 P, sbX8_lookt_116 P, trivial⟩
noncomputable def f_X8_lookt {d : Nat} : List zV → zH d → zP d → Bool := zfn 2 (b_X8_lookt )
theorem m_X8_lookt {d : Nat} : zMet (d := d) X_X8_look yX8_look 3 (f_X8_lookt ) := zmet_mk (X := X_X8_look) (by decide) rfl rfl (fun P => s_X8_lookt P)

noncomputable def bX8_partst_24 {d : Nat} (P : zP d) : zK d := (xpL 9223372036854775808 (xlret P))
set_option maxRecDepth 100000 in
set_option maxHeartbeats 4000000 in
theorem sbX8_partst_24 {d : Nat} [zGh] (P : zP d) : zSim X_X8_parts 2 P 24 (bX8_partst_24 P) := by
  unfold bX8_partst_24
  refine sm_ldc2 (pc := 24) dX8_parts_24 wd_850 zc_cl_m9223372036854775808 ?_
  exact sm_lreturn (pc := 27) dX8_parts_27 rfl
noncomputable def bX8_partst_133 {d : Nat} (P : zP d) : zK d := (xlret P)
set_option maxRecDepth 100000 in
set_option maxHeartbeats 4000000 in
theorem sbX8_partst_133 {d : Nat} [zGh] (P : zP d) : zSim X_X8_parts 2 P 133 (bX8_partst_133 P) := by
  unfold bX8_partst_133
  exact sm_lreturn (pc := 133) dX8_parts_133 rfl
noncomputable def cX8_partst_129 {d : Nat} (P : zP d) (j133 : zK d) : zK d := (xi2lR (xlld 7 (xdvT j133)))
set_option maxRecDepth 100000 in
set_option maxHeartbeats 4000000 in
theorem scX8_partst_129 {d : Nat} [zGh] (P : zP d) (j133 : zK d) (hj133 : zSimJ 1 X_X8_parts 2 P 133 j133) : zSim X_X8_parts 2 P 129 (cX8_partst_129 P j133) := by
  unfold cX8_partst_129
  refine sm_i2lR (pc := 129) dX8_parts_129 ?_
  refine sm_lload (pc := 130) (n := 7) dX8_parts_130 ?_
  refine sm_ldivT (pc := 132) dX8_parts_132 ?_
  exact hj133.use
noncomputable def cX8_partst_119 {d : Nat} (P : zP d) (j133 : zK d) : zK d := j133
set_option maxRecDepth 100000 in
set_option maxHeartbeats 4000000 in
theorem scX8_partst_119 {d : Nat} [zGh] (P : zP d) (j133 : zK d) (hj133 : zSimJ 1 X_X8_parts 2 P 133 j133) : zSim X_X8_parts 2 P 119 (cX8_partst_119 P j133) := by
  unfold cX8_partst_119
  refine sm_goto (pc := 119) (tgt := 133) dX8_parts_119 (by decide) ?_
  exact hj133.use
noncomputable def bX8_partst_65 {d : Nat} (P : zP d) : zK d := (xaldV 0 (xaldV 0 (xgfR 24 2 (xild 1 (xaaT (xild 2 (xild 4 (xcV 24 4 0 0 (zstr f_X8_timesFactorial) (xlst 5 (xlld 5 (xabsN (xaldV 0 (xgfR 24 6 (xgfI 23 2 (xi2lR (xcS 2 0 0 (zstr gX_X8_greatestDivisor) (xlst 7 (xlz 7 (xpL 9223372036854775808 (xlret P)) (xild 3 (xpI 2 (xjoin (bX8_partst_133 P) (fun j133 => (xcmpS tgeR rlGe rhS rlS rhLt (xaldV 0 (xgfR 24 6 (xgfI 23 2 (cX8_partst_129 P j133)))) (xlld 5 (xlld 7 (xdvT (cX8_partst_119 P j133)))))))))))))))))))))))))))
set_option maxRecDepth 100000 in
set_option maxHeartbeats 4000000 in
theorem sbX8_partst_65 {d : Nat} [zGh] (P : zP d) : zSim X_X8_parts 2 P 65 (bX8_partst_65 P) := by
  unfold bX8_partst_65
  refine sm_aloadV_n (pc := 65) (n := 0) dX8_parts_65 rfl ?_
  refine sm_aloadV_n (pc := 66) (n := 0) dX8_parts_66 rfl ?_
  refine gf_X8_23 (pc := 67) rfl dX8_parts_67 ?_
  refine sm_iload_n (pc := 70) (n := 1) dX8_parts_70 rfl ?_
  refine sm_aaloadT (pc := 71) dX8_parts_71 ?_
  refine sm_iload_n (pc := 72) (n := 2) dX8_parts_72 rfl ?_
  refine sm_iload (pc := 73) (n := 4) dX8_parts_73 ?_
  refine sm_cV (pc := 75) (ci := 8) (n := 4) (mc := 0) (ms := 0) rfl (zMet_str m_X8_timesFactorial) (cr_X8_256 (X := X_X8_parts) (fr := 2) (frc := 1) (pc := 75) (mc := 0) (ms := 0) rfl (by decide) dX8_parts_75) ?_
  refine sm_lstore (pc := 78) (n := 5) dX8_parts_78 ?_
  refine sm_lload (pc := 80) (n := 5) dX8_parts_80 ?_
  refine sm_mabsN (pc := 82) wd_859 wd_763 wd_6 wd_764 (by decide) dX8_parts_82 ?_
  refine sm_aloadV_n (pc := 85) (n := 0) dX8_parts_85 rfl ?_
  refine gf_X8_40 (pc := 86) rfl dX8_parts_86 ?_
  refine gf_X8_266 (pc := 89) rfl dX8_parts_89 ?_
  refine sm_i2lR (pc := 92) dX8_parts_92 ?_
  refine sm_cS (pc := 93) (n := 2) (mc := 0) (ms := 0) (zMet_str mX_X8_greatestDivisor) (cr_X8_269 (X := X_X8_parts) (fr := 2) (frc := 1) (pc := 93) (mc := 0) (ms := 0) rfl (by decide) dX8_parts_93) ?_
  refine sm_lstore (pc := 96) (n := 7) dX8_parts_96 ?_
  refine sm_lzne (pc := 98) (pc' := 100) (n := 7) (tgt := 109) (fun hx hb hl kk => lv_lload hx hb dX8_parts_98 hl kk) dX8_parts_100 rfl dX8_parts_101 dX8_parts_102 (by decide) ?_ ?_
  · skip
    refine sm_iload_n (pc := 109) (n := 3) dX8_parts_109 rfl ?_
    refine sm_iconst (pc := 110) dX8_parts_110 zc_i_2 ?_
    refine sm_joinJ (pc := 111) (pc' := 133) (j := 1) (fun G0 hG0 => @sbX8_partst_133 d G0 P) (fun j133 hj133 => ?_)
    refine sm_icmpS_ge (pc := 111) (tgt := 122) dX8_parts_111 (by decide) ?_ ?_
    · skip
      refine sm_aloadV_n (pc := 122) (n := 0) dX8_parts_122 rfl ?_
      refine gf_X8_40 (pc := 123) rfl dX8_parts_123 ?_
      refine gf_X8_266 (pc := 126) rfl dX8_parts_126 ?_
      exact scX8_partst_129 P j133 hj133
    · skip
      refine sm_lload (pc := 114) (n := 5) dX8_parts_114 ?_
      refine sm_lload (pc := 116) (n := 7) dX8_parts_116 ?_
      refine sm_ldivT (pc := 118) dX8_parts_118 ?_
      exact scX8_partst_119 P j133 hj133
  · skip
    refine sm_ldc2 (pc := 105) dX8_parts_105 wd_850 zc_cl_m9223372036854775808 ?_
    exact sm_lreturn (pc := 108) dX8_parts_108 rfl
noncomputable def bX8_partst_43 {d : Nat} (P : zP d) : zK d := (xist 4 (xild 4 (xjoin (bX8_partst_65 P) (fun j65 => (xif0S teqR rlEq rhEq rlNe rhNe j65 (xaldV 0 (xgfR 24 7 (xild 2 (xcV 21 2 0 0 (zstr f_X5_isRegular) (xif0S teqR rlEq rhEq rlNe rhNe (xpL 9223372036854775808 (xlret P)) j65))))))))))
set_option maxRecDepth 100000 in
set_option maxHeartbeats 4000000 in
theorem sbX8_partst_43 {d : Nat} [zGh] (P : zP d) : zSim X_X8_parts 2 P 43 (bX8_partst_43 P) := by
  unfold bX8_partst_43
  refine sm_istore (pc := 43) (n := 4) dX8_parts_43 ?_
  refine sm_iload (pc := 45) (n := 4) dX8_parts_45 ?_
  refine sm_joinJ (pc := 47) (pc' := 65) (j := 1) (fun G0 hG0 => @sbX8_partst_65 d G0 P) (fun j65 hj65 => ?_)
  refine sm_ifS_eq (pc := 47) (tgt := 65) dX8_parts_47 (by decide) ?_ ?_
  · skip
    exact hj65.use
  · skip
    refine sm_aloadV_n (pc := 50) (n := 0) dX8_parts_50 rfl ?_
    refine gf_X8_47 (pc := 51) rfl dX8_parts_51 ?_
    refine sm_iload_n (pc := 54) (n := 2) dX8_parts_54 rfl ?_
    refine sm_cV (pc := 55) (ci := 5) (n := 2) (mc := 0) (ms := 0) rfl (zMet_str m_X5_isRegular) (cr_X8_145 (X := X_X8_parts) (fr := 2) (frc := 1) (pc := 55) (mc := 0) (ms := 0) rfl (by decide) dX8_parts_55) ?_
    refine sm_ifS_ne (pc := 58) (tgt := 65) dX8_parts_58 (by decide) ?_ ?_
    · skip
      exact hj65.use
    · skip
      refine sm_ldc2 (pc := 61) dX8_parts_61 wd_850 zc_cl_m9223372036854775808 ?_
      exact sm_lreturn (pc := 64) dX8_parts_64 rfl
noncomputable def bX8_partst_38 {d : Nat} (P : zP d) (j43 : zK d) : zK d := (xpI 1 j43)
set_option maxRecDepth 100000 in
set_option maxHeartbeats 4000000 in
theorem sbX8_partst_38 {d : Nat} [zGh] (P : zP d) (j43 : zK d) (hj43 : zSimJ 1 X_X8_parts 2 P 43 j43) : zSim X_X8_parts 2 P 38 (bX8_partst_38 P j43) := by
  unfold bX8_partst_38
  refine sm_iconst (pc := 38) dX8_parts_38 zc_i_1 ?_
  refine sm_goto (pc := 39) (tgt := 43) dX8_parts_39 (by decide) ?_
  exact hj43.use
noncomputable def b_X8_partst {d : Nat} (P : zP d) : zK d := (xild 1 (xcS 1 0 0 (zstr f_X8_isSlota) (xjoin (bX8_partst_24 P) (fun j24 => (xif0S teqR rlEq rhEq rlNe rhNe j24 (xaldV 0 (xild 2 (xcV 24 2 0 0 (zstr f_X8_isPartitiona) (xif0S teqR rlEq rhEq rlNe rhNe j24 (xild 3 (xif0S tgeR rlGe rhS rlS rhLt (xild 3 (xpI 3 (xcmpS tleR rlS rhLe rlGt rhS (xild 3 (xpI 1 (xjoin (bX8_partst_43 P) (fun j43 => (xjoin (bX8_partst_38 P j43) (fun j38 => (xcmpS teqR rlEq rhEq rlNe rhNe j38 (xild 3 (xpI 3 (xcmpS teqR rlEq rhEq rlNe rhNe j38 (xpI 0 j43))))))))))) j24))) j24)))))))))))
set_option maxRecDepth 100000 in
set_option maxHeartbeats 4000000 in
theorem s_X8_partst {d : Nat} [zGh] (P : zP d) : zSim X_X8_parts 2 P 0 (b_X8_partst P) := by
  unfold b_X8_partst
  refine sm_iload_n (pc := 0) (n := 1) dX8_parts_0 rfl ?_
  refine sm_cS (pc := 1) (n := 1) (mc := 0) (ms := 0) (zMet_str m_X8_isSlota) (cr_X8_88 (X := X_X8_parts) (fr := 2) (frc := 1) (pc := 1) (mc := 0) (ms := 0) rfl (by decide) dX8_parts_1) ?_
  refine sm_joinJ (pc := 4) (pc' := 24) (j := 1) (fun G0 hG0 => @sbX8_partst_24 d G0 P) (fun j24 hj24 => ?_)
  refine sm_ifS_eq (pc := 4) (tgt := 24) dX8_parts_4 (by decide) ?_ ?_
  · skip
    exact hj24.use
  · skip
    refine sm_aloadV_n (pc := 7) (n := 0) dX8_parts_7 rfl ?_
    refine sm_iload_n (pc := 8) (n := 2) dX8_parts_8 rfl ?_
    refine sm_cV (pc := 9) (ci := 8) (n := 2) (mc := 0) (ms := 0) rfl (zMet_str m_X8_isPartitiona) (cr_X8_126 (X := X_X8_parts) (fr := 2) (frc := 1) (pc := 9) (mc := 0) (ms := 0) rfl (by decide) dX8_parts_9) ?_
    refine sm_ifS_eq (pc := 12) (tgt := 24) dX8_parts_12 (by decide) ?_ ?_
    · skip
      exact hj24.use
    · skip
      refine sm_iload_n (pc := 15) (n := 3) dX8_parts_15 rfl ?_
      refine sm_ifS_lt (pc := 16) (tgt := 24) dX8_parts_16 (by decide) ?_ ?_
      · skip
        exact hj24.use
      · skip
        refine sm_iload_n (pc := 19) (n := 3) dX8_parts_19 rfl ?_
        refine sm_iconst (pc := 20) dX8_parts_20 zc_i_3 ?_
        refine sm_icmpS_le (pc := 21) (tgt := 28) dX8_parts_21 (by decide) ?_ ?_
        · skip
          refine sm_iload_n (pc := 28) (n := 3) dX8_parts_28 rfl ?_
          refine sm_iconst (pc := 29) dX8_parts_29 zc_i_1 ?_
          refine sm_joinJ (pc := 30) (pc' := 43) (j := 1) (fun G0 hG0 => @sbX8_partst_43 d G0 P) (fun j43 hj43 => ?_)
          refine sm_joinJ (pc := 30) (pc' := 38) (j := 1) (fun G0 hG0 => @sbX8_partst_38 d G0 P j43 (hj43.mv hG0 (by decide))) (fun j38 hj38 => ?_)
          refine sm_icmpS_eq (pc := 30) (tgt := 38) dX8_parts_30 (by decide) ?_ ?_
          · skip
            exact hj38.use
          · skip
            refine sm_iload_n (pc := 33) (n := 3) dX8_parts_33 rfl ?_
            refine sm_iconst (pc := 34) dX8_parts_34 zc_i_3 ?_
            refine sm_icmpS_ne (pc := 35) (tgt := 42) dX8_parts_35 (by decide) ?_ ?_
            · skip
              refine sm_iconst (pc := 42) dX8_parts_42 zc_i_0 ?_
              exact hj43.use
            · skip
              exact hj38.use
        · skip
          exact hj24.use
noncomputable def f_X8_partst {d : Nat} : List zV → zH d → zP d → Bool := zfn 9 (b_X8_partst )
theorem m_X8_partst {d : Nat} : zMet (d := d) X_X8_parts yX8_parts 2 (f_X8_partst ) := zmet_mk (X := X_X8_parts) (by decide) rfl rfl (fun P => s_X8_partst P)

noncomputable def bX9_partst_43 {d : Nat} (P : zP d) : zK d := (xpL 9223372036854775808 (xlret P))
set_option maxRecDepth 100000 in
set_option maxHeartbeats 4000000 in
theorem sbX9_partst_43 {d : Nat} [zGh] (P : zP d) : zSim X_X9_parts 3 P 43 (bX9_partst_43 P) := by
  unfold bX9_partst_43
  refine sm_ldc2 (pc := 43) dX9_parts_43 wd_1311 zc_cl_m9223372036854775808 ?_
  exact sm_lreturn (pc := 46) dX9_parts_46 rfl
noncomputable def bX9_partst_103 {d : Nat} (P : zP d) : zK d := (xlret P)
set_option maxRecDepth 100000 in
set_option maxHeartbeats 4000000 in
theorem sbX9_partst_103 {d : Nat} [zGh] (P : zP d) : zSim X_X9_parts 3 P 103 (bX9_partst_103 P) := by
  unfold bX9_partst_103
  exact sm_lreturn (pc := 103) dX9_parts_103 rfl
noncomputable def bX9_partst_68 {d : Nat} (P : zP d) : zK d := (xlst 4 (xlld 4 (xaldV 0 (xgfI 25 12 (xi2lR (xcS 2 0 0 (zstr gX_X9_divisor) (xlst 6 (xild 3 (xpI 2 (xjoin (bX9_partst_103 P) (fun j103 => (xcmpS tgeR rlGe rhS rlS rhLt (xaldV 0 (xgfI 25 12 (xi2lR (xlld 6 (xdvT j103))))) (xlld 4 (xlld 6 (xdvT j103)))))))))))))))
set_option maxRecDepth 100000 in
set_option maxHeartbeats 4000000 in
theorem sbX9_partst_68 {d : Nat} [zGh] (P : zP d) : zSim X_X9_parts 3 P 68 (bX9_partst_68 P) := by
  unfold bX9_partst_68
  refine sm_lstore (pc := 68) (n := 4) dX9_parts_68 ?_
  refine sm_lload (pc := 70) (n := 4) dX9_parts_70 ?_
  refine sm_aloadV_n (pc := 72) (n := 0) dX9_parts_72 rfl ?_
  refine gf_X9_166 (pc := 73) rfl dX9_parts_73 ?_
  refine sm_i2lR (pc := 76) dX9_parts_76 ?_
  refine sm_cS (pc := 77) (n := 2) (mc := 0) (ms := 0) (zMet_str mX_X9_divisor) (cr_X9_335 (X := X_X9_parts) (fr := 3) (frc := 1) (pc := 77) (mc := 0) (ms := 0) rfl (by decide) dX9_parts_77) ?_
  refine sm_lstore (pc := 80) (n := 6) dX9_parts_80 ?_
  refine sm_iload_n (pc := 82) (n := 3) dX9_parts_82 rfl ?_
  refine sm_iconst (pc := 83) dX9_parts_83 zc_i_2 ?_
  refine sm_joinJ (pc := 84) (pc' := 103) (j := 1) (fun G0 hG0 => @sbX9_partst_103 d G0 P) (fun j103 hj103 => ?_)
  refine sm_icmpS_ge (pc := 84) (tgt := 95) dX9_parts_84 (by decide) ?_ ?_
  · skip
    refine sm_aloadV_n (pc := 95) (n := 0) dX9_parts_95 rfl ?_
    refine gf_X9_166 (pc := 96) rfl dX9_parts_96 ?_
    refine sm_i2lR (pc := 99) dX9_parts_99 ?_
    refine sm_lload (pc := 100) (n := 6) dX9_parts_100 ?_
    refine sm_ldivT (pc := 102) dX9_parts_102 ?_
    exact hj103.use
  · skip
    refine sm_lload (pc := 87) (n := 4) dX9_parts_87 ?_
    refine sm_lload (pc := 89) (n := 6) dX9_parts_89 ?_
    refine sm_ldivT (pc := 91) dX9_parts_91 ?_
    refine sm_goto (pc := 92) (tgt := 103) dX9_parts_92 (by decide) ?_
    exact hj103.use
noncomputable def bX9_partst_47 {d : Nat} (P : zP d) : zK d := (xild 3 (xpI 2 (xbinN zremR (xjoin (bX9_partst_68 P) (fun j68 => (xif0S teqR rlEq rhEq rlNe rhNe (xaldV 0 (xild 1 (xild 2 (xcV 25 3 0 0 (zstr f_X9_ordinarySum) j68)))) (xaldV 0 (xild 1 (xild 2 (xcV 25 3 0 0 (zstr f_X9_modularSum) j68))))))))))
set_option maxRecDepth 100000 in
set_option maxHeartbeats 4000000 in
theorem sbX9_partst_47 {d : Nat} [zGh] (P : zP d) : zSim X_X9_parts 3 P 47 (bX9_partst_47 P) := by
  unfold bX9_partst_47
  refine sm_iload_n (pc := 47) (n := 3) dX9_parts_47 rfl ?_
  refine sm_iconst (pc := 48) dX9_parts_48 zc_i_2 ?_
  refine sm_iremR (pc := 49) dX9_parts_49 ?_
  refine sm_joinJ (pc := 50) (pc' := 68) (j := 1) (fun G0 hG0 => @sbX9_partst_68 d G0 P) (fun j68 hj68 => ?_)
  refine sm_ifS_ne (pc := 50) (tgt := 62) dX9_parts_50 (by decide) ?_ ?_
  · skip
    refine sm_aloadV_n (pc := 62) (n := 0) dX9_parts_62 rfl ?_
    refine sm_iload_n (pc := 63) (n := 1) dX9_parts_63 rfl ?_
    refine sm_iload_n (pc := 64) (n := 2) dX9_parts_64 rfl ?_
    refine sm_cV (pc := 65) (ci := 9) (n := 3) (mc := 0) (ms := 0) rfl (zMet_str m_X9_modularSum) (cr_X9_332 (X := X_X9_parts) (fr := 3) (frc := 1) (pc := 65) (mc := 0) (ms := 0) rfl (by decide) dX9_parts_65) ?_
    exact hj68.use
  · skip
    refine sm_aloadV_n (pc := 53) (n := 0) dX9_parts_53 rfl ?_
    refine sm_iload_n (pc := 54) (n := 1) dX9_parts_54 rfl ?_
    refine sm_iload_n (pc := 55) (n := 2) dX9_parts_55 rfl ?_
    refine sm_cV (pc := 56) (ci := 9) (n := 3) (mc := 0) (ms := 0) rfl (zMet_str m_X9_ordinarySum) (cr_X9_328 (X := X_X9_parts) (fr := 3) (frc := 1) (pc := 56) (mc := 0) (ms := 0) rfl (by decide) dX9_parts_56) ?_
    refine sm_goto (pc := 59) (tgt := 68) dX9_parts_59 (by decide) ?_
    exact hj68.use
noncomputable def b_X9_partst {d : Nat} (P : zP d) : zK d := (xild 1 (xcS 1 0 0 (zstr f_X9_isSlota) (xjoin (bX9_partst_43 P) (fun j43 => (xif0S teqR rlEq rhEq rlNe rhNe j43 (xaldV 0 (xild 2 (xcV 25 2 0 0 (zstr f_X9_isParta) (xif0S teqR rlEq rhEq rlNe rhNe j43 (xild 3 (xi2lR (xpL 0 (xpL 3 (xcS 3 0 0 (zstr f_X9_isIna) (xif0S teqR rlEq rhEq rlNe rhNe j43 (xild 3 (xpI 2 (xbinN zremR (xpI 1 (xjoin (bX9_partst_47 P) (fun j47 => (xcmpS teqR rlEq rhEq rlNe rhNe (xaldV 0 (xgfR 25 7 (xild 2 (xalQ 1 (xif0S teqR rlEq rhEq rlNe rhNe j43 j47))))) j47))))))))))))))))))))))
set_option maxRecDepth 100000 in
set_option maxHeartbeats 4000000 in
theorem s_X9_partst {d : Nat} [zGh] (P : zP d) : zSim X_X9_parts 3 P 0 (b_X9_partst P) := by
  unfold b_X9_partst
  refine sm_iload_n (pc := 0) (n := 1) dX9_parts_0 rfl ?_
  refine sm_cS (pc := 1) (n := 1) (mc := 0) (ms := 0) (zMet_str m_X9_isSlota) (cr_X9_319 (X := X_X9_parts) (fr := 3) (frc := 2) (pc := 1) (mc := 0) (ms := 0) rfl (by decide) dX9_parts_1) ?_
  refine sm_joinJ (pc := 4) (pc' := 43) (j := 1) (fun G0 hG0 => @sbX9_partst_43 d G0 P) (fun j43 hj43 => ?_)
  refine sm_ifS_eq (pc := 4) (tgt := 43) dX9_parts_4 (by decide) ?_ ?_
  · skip
    exact hj43.use
  · skip
    refine sm_aloadV_n (pc := 7) (n := 0) dX9_parts_7 rfl ?_
    refine sm_iload_n (pc := 8) (n := 2) dX9_parts_8 rfl ?_
    refine sm_cV (pc := 9) (ci := 9) (n := 2) (mc := 0) (ms := 0) rfl (zMet_str m_X9_isParta) (cr_X9_287 (X := X_X9_parts) (fr := 3) (frc := 2) (pc := 9) (mc := 0) (ms := 0) rfl (by decide) dX9_parts_9) ?_
    refine sm_ifS_eq (pc := 12) (tgt := 43) dX9_parts_12 (by decide) ?_ ?_
    · skip
      exact hj43.use
    · skip
      refine sm_iload_n (pc := 15) (n := 3) dX9_parts_15 rfl ?_
      refine sm_i2lR (pc := 16) dX9_parts_16 ?_
      refine sm_lconst (pc := 17) dX9_parts_17 zc_l_0 ?_
      refine sm_ldc2 (pc := 18) dX9_parts_18 wd_1316 zc_cl_3 ?_
      refine sm_cS (pc := 21) (n := 3) (mc := 0) (ms := 0) (zMet_str m_X9_isIna) (cr_X9_283 (X := X_X9_parts) (fr := 3) (frc := 1) (pc := 21) (mc := 0) (ms := 0) rfl (by decide) dX9_parts_21) ?_
      refine sm_ifS_eq (pc := 24) (tgt := 43) dX9_parts_24 (by decide) ?_ ?_
      · skip
        exact hj43.use
      · skip
        refine sm_iload_n (pc := 27) (n := 3) dX9_parts_27 rfl ?_
        refine sm_iconst (pc := 28) dX9_parts_28 zc_i_2 ?_
        refine sm_iremR (pc := 29) dX9_parts_29 ?_
        refine sm_iconst (pc := 30) dX9_parts_30 zc_i_1 ?_
        refine sm_joinJ (pc := 31) (pc' := 47) (j := 1) (fun G0 hG0 => @sbX9_partst_47 d G0 P) (fun j47 hj47 => ?_)
        refine sm_icmpS_ne (pc := 31) (tgt := 47) dX9_parts_31 (by decide) ?_ ?_
        · skip
          exact hj47.use
        · skip
          refine sm_aloadV_n (pc := 34) (n := 0) dX9_parts_34 rfl ?_
          refine gf_X9_22 (pc := 35) rfl dX9_parts_35 ?_
          refine sm_iload_n (pc := 38) (n := 2) dX9_parts_38 rfl ?_
          refine sm_baloadQ (pc := 39) dX9_parts_39 ?_
          refine sm_ifS_ne (pc := 40) (tgt := 47) dX9_parts_40 (by decide) ?_ ?_
          · skip
            exact hj47.use
          · skip
            exact hj43.use
noncomputable def f_X9_partst {d : Nat} : List zV → zH d → zP d → Bool := zfn 8 (b_X9_partst )
theorem m_X9_partst {d : Nat} : zMet (d := d) X_X9_parts yX9_parts 3 (f_X9_partst ) := zmet_mk (X := X_X9_parts) (by decide) rfl rfl (fun P => s_X9_partst P)

noncomputable def bX9_lookt_187 {d : Nat} (P : zP d) : zK d := (xpI 4294967295 (xiret P))
set_option maxRecDepth 100000 in
set_option maxHeartbeats 4000000 in
theorem sbX9_lookt_187 {d : Nat} [zGh] (P : zP d) : zSim X_X9_look 2 P 187 (bX9_lookt_187 P) := by
  unfold bX9_lookt_187
  refine sm_iconst (pc := 187) dX9_look_187 zc_i_m1 ?_
  exact sm_ireturn (pc := 188) dX9_look_188 rfl
noncomputable def bX9_lookt_148 {d : Nat} (P : zP d) : zK d := (xaldV 0 (xgfI 25 0 (xiret P)))
set_option maxRecDepth 100000 in
set_option maxHeartbeats 4000000 in
theorem sbX9_lookt_148 {d : Nat} [zGh] (P : zP d) : zSim X_X9_look 2 P 148 (bX9_lookt_148 P) := by
  unfold bX9_lookt_148
  refine sm_aloadV_n (pc := 148) (n := 0) dX9_look_148 rfl ?_
  refine gf_X9_169 (pc := 149) rfl dX9_look_149 ?_
  exact sm_ireturn (pc := 152) dX9_look_152 rfl
noncomputable def bX9_lookt_153 {d : Nat} (P : zP d) : zK d := (xaldV 0 (xgfI 25 1 (xiret P)))
set_option maxRecDepth 100000 in
set_option maxHeartbeats 4000000 in
theorem sbX9_lookt_153 {d : Nat} [zGh] (P : zP d) : zSim X_X9_look 2 P 153 (bX9_lookt_153 P) := by
  unfold bX9_lookt_153
  refine sm_aloadV_n (pc := 153) (n := 0) dX9_look_153 rfl ?_
  refine gf_X9_184 (pc := 154) rfl dX9_look_154 ?_
  exact sm_ireturn (pc := 157) dX9_look_157 rfl
noncomputable def bX9_lookt_158 {d : Nat} (P : zP d) : zK d := (xaldV 0 (xgfI 25 2 (xiret P)))
set_option maxRecDepth 100000 in
set_option maxHeartbeats 4000000 in
theorem sbX9_lookt_158 {d : Nat} [zGh] (P : zP d) : zSim X_X9_look 2 P 158 (bX9_lookt_158 P) := by
  unfold bX9_lookt_158
  refine sm_aloadV_n (pc := 158) (n := 0) dX9_look_158 rfl ?_
  refine gf_X9_153 (pc := 159) rfl dX9_look_159 ?_
  exact sm_ireturn (pc := 162) dX9_look_162 rfl
noncomputable def bX9_lookt_163 {d : Nat} (P : zP d) : zK d := (xaldV 0 (xgfI 25 11 (xiret P)))
set_option maxRecDepth 100000 in
set_option maxHeartbeats 4000000 in
theorem sbX9_lookt_163 {d : Nat} [zGh] (P : zP d) : zSim X_X9_look 2 P 163 (bX9_lookt_163 P) := by
  unfold bX9_lookt_163
  refine sm_aloadV_n (pc := 163) (n := 0) dX9_look_163 rfl ?_
  refine gf_X9_172 (pc := 164) rfl dX9_look_164 ?_
  exact sm_ireturn (pc := 167) dX9_look_167 rfl
noncomputable def bX9_lookt_168 {d : Nat} (P : zP d) : zK d := (xaldV 0 (xgfI 25 18 (xiret P)))
set_option maxRecDepth 100000 in
set_option maxHeartbeats 4000000 in
theorem sbX9_lookt_168 {d : Nat} [zGh] (P : zP d) : zSim X_X9_look 2 P 168 (bX9_lookt_168 P) := by
  unfold bX9_lookt_168
  refine sm_aloadV_n (pc := 168) (n := 0) dX9_look_168 rfl ?_
  refine gf_X9_199 (pc := 169) rfl dX9_look_169 ?_
  exact sm_ireturn (pc := 172) dX9_look_172 rfl
noncomputable def bX9_lookt_173 {d : Nat} (P : zP d) : zK d := (xaldV 0 (xgfI 25 12 (xiret P)))
set_option maxRecDepth 100000 in
set_option maxHeartbeats 4000000 in
theorem sbX9_lookt_173 {d : Nat} [zGh] (P : zP d) : zSim X_X9_look 2 P 173 (bX9_lookt_173 P) := by
  unfold bX9_lookt_173
  refine sm_aloadV_n (pc := 173) (n := 0) dX9_look_173 rfl ?_
  refine gf_X9_166 (pc := 174) rfl dX9_look_174 ?_
  exact sm_ireturn (pc := 177) dX9_look_177 rfl
noncomputable def bX9_lookt_178 {d : Nat} (P : zP d) : zK d := (xaldV 0 (xgfI 25 46 (xiret P)))
set_option maxRecDepth 100000 in
set_option maxHeartbeats 4000000 in
theorem sbX9_lookt_178 {d : Nat} [zGh] (P : zP d) : zSim X_X9_look 2 P 178 (bX9_lookt_178 P) := by
  unfold bX9_lookt_178
  refine sm_aloadV_n (pc := 178) (n := 0) dX9_look_178 rfl ?_
  refine gf_X9_347 (pc := 179) rfl dX9_look_179 ?_
  exact sm_ireturn (pc := 182) dX9_look_182 rfl
noncomputable def bX9_lookt_183 {d : Nat} (P : zP d) : zK d := (xild 2 (xiret P))
set_option maxRecDepth 100000 in
set_option maxHeartbeats 4000000 in
theorem sbX9_lookt_183 {d : Nat} [zGh] (P : zP d) : zSim X_X9_look 2 P 183 (bX9_lookt_183 P) := by
  unfold bX9_lookt_183
  refine sm_iload_n (pc := 183) (n := 2) dX9_look_183 rfl ?_
  exact sm_ireturn (pc := 184) dX9_look_184 rfl
noncomputable def bX9_lookt_185 {d : Nat} (P : zP d) : zK d := (xild 3 (xiret P))
set_option maxRecDepth 100000 in
set_option maxHeartbeats 4000000 in
theorem sbX9_lookt_185 {d : Nat} [zGh] (P : zP d) : zSim X_X9_look 2 P 185 (bX9_lookt_185 P) := by
  unfold bX9_lookt_185
  refine sm_iload_n (pc := 185) (n := 3) dX9_look_185 rfl ?_
  exact sm_ireturn (pc := 186) dX9_look_186 rfl
noncomputable def bX9_lookt_87 {d : Nat} (P : zP d) (r57 : zK d) : zK d := (xcS 1 0 0 (zstr f_X9_one) (xbin zaddR (xist 3 (xincR 4 1 r57))))
set_option maxRecDepth 100000 in
set_option maxHeartbeats 4000000 in
theorem sbX9_lookt_87 {d : Nat} [zGh] (P : zP d) (r57 : zK d) (hr57 : zSimJ 1 X_X9_look 2 P 57 r57) : zSim X_X9_look 2 P 87 (bX9_lookt_87 P r57) := by
  unfold bX9_lookt_87
  refine sm_cS (pc := 87) (n := 1) (mc := 0) (ms := 0) (zMet_str m_X9_one) (cr_X9_187 (X := X_X9_look) (fr := 2) (frc := 1) (pc := 87) (mc := 0) (ms := 0) rfl (by decide) dX9_look_87) ?_
  refine sm_iaddR (pc := 90) dX9_look_90 ?_
  refine sm_istore_n (pc := 91) (n := 3) dX9_look_91 rfl ?_
  refine sm_iincR (pc := 92) (n := 4) dX9_look_92 zc_i_1 ?_
  refine sm_goto (pc := 95) (tgt := 57) dX9_look_95 (by decide) ?_
  exact hr57.use
noncomputable def lX9_lookt_57 {d : Nat} (P : zP d) (r57 : zK d) : zK d := (xild 4 (xaldV 0 (xgfI 25 18 (xcmpS tgeR rlGe rhS rlS rhLt (xild 1 (xtswR 8 [(bX9_lookt_148 P), (bX9_lookt_153 P), (bX9_lookt_158 P), (bX9_lookt_163 P), (bX9_lookt_168 P), (bX9_lookt_173 P), (bX9_lookt_178 P), (bX9_lookt_183 P), (bX9_lookt_185 P)] (bX9_lookt_187 P))) (xild 3 (xaldV 0 (xgfR 25 15 (xaldV 0 (xgfR 25 19 (xild 4 (xalQ 0 (xalQ 0 (xjn wkE (zsp [zI 4294967298] 1) (bX9_lookt_87 P r57) (fun j87 => (xif0S teqR rlEq rhEq rlNe rhNe (xpI 1 j87) (xpI 0 j87))))))))))))))))
set_option maxRecDepth 100000 in
set_option maxHeartbeats 4000000 in
theorem slX9_lookt_57 {d : Nat} [zGh] (P : zP d) (r57 : zK d) (hr57 : zSimJ 1 X_X9_look 2 P 57 r57) : zSim X_X9_look 2 P 57 (lX9_lookt_57 P r57) := by
  unfold lX9_lookt_57
  refine sm_iload (pc := 57) (n := 4) dX9_look_57 ?_
  refine sm_aloadV_n (pc := 59) (n := 0) dX9_look_59 rfl ?_
  refine gf_X9_199 (pc := 60) rfl dX9_look_60 ?_
  refine sm_icmpS_ge (pc := 63) (tgt := 98) dX9_look_63 (by decide) ?_ ?_
  · skip
    refine sm_iload_n (pc := 98) (n := 1) dX9_look_98 rfl ?_
    exact sm_tswR (pc := 99) (n := 8) (tdf := 187) [148, 153, 158, 163, 168, 173, 178, 183, 185] rfl (by decide) dX9_look_99 rfl (by decide +kernel) (by decide) (sbX9_lookt_187 P) ⟨sbX9_lookt_148 P, sbX9_lookt_153 P, sbX9_lookt_158 P, sbX9_lookt_163 P, sbX9_lookt_168 P, sbX9_lookt_173 P, sbX9_lookt_178 P, sbX9_lookt_183 P, sbX9_lookt_185 P, trivial⟩
  · skip
    refine sm_iload_n (pc := 66) (n := 3) dX9_look_66 rfl ?_
    refine sm_aloadV_n (pc := 67) (n := 0) dX9_look_67 rfl ?_
    refine gf_X9_41 (pc := 68) rfl dX9_look_68 ?_
    refine sm_aloadV_n (pc := 71) (n := 0) dX9_look_71 rfl ?_
    refine gf_X9_50 (pc := 72) rfl dX9_look_72 ?_
    refine sm_iload (pc := 75) (n := 4) dX9_look_75 ?_
    refine sm_ialoadQ (pc := 77) dX9_look_77 ?_
    refine sm_ialoadQ (pc := 78) dX9_look_78 ?_
    refine sm_jn (pc := 79) (pc' := 87) (j := 1) wkE_ok (zsp_ok _ _) (fun G0 hG0 => @sbX9_lookt_87 d G0 P r57 (hr57.mv hG0 (by decide))) (fun j87 hj87 => ?_)
    refine sm_ifS_ne (pc := 79) (tgt := 86) dX9_look_79 (by decide) ?_ ?_
    · skip
      refine sm_iconst (pc := 86) dX9_look_86 zc_i_0 ?_
      exact hj87.use
    · skip
      refine sm_iconst (pc := 82) dX9_look_82 zc_i_1 ?_
      refine sm_goto (pc := 83) (tgt := 87) dX9_look_83 (by decide) ?_
      exact hj87.use
noncomputable def bX9_lookt_48 {d : Nat} (P : zP d) (r7 : zK d) : zK d := (xincR 4 1 r7)
set_option maxRecDepth 100000 in
set_option maxHeartbeats 4000000 in
theorem sbX9_lookt_48 {d : Nat} [zGh] (P : zP d) (r7 : zK d) (hr7 : zSimJ 1 X_X9_look 2 P 7 r7) : zSim X_X9_look 2 P 48 (bX9_lookt_48 P r7) := by
  unfold bX9_lookt_48
  refine sm_iincR (pc := 48) (n := 4) dX9_look_48 zc_i_1 ?_
  refine sm_goto (pc := 51) (tgt := 7) dX9_look_51 (by decide) ?_
  exact hr7.use
noncomputable def lX9_lookt_7 {d : Nat} (P : zP d) (r7 : zK d) : zK d := (xild 4 (xpI 66 (xcmpS tgeR rlGe rhS rlS rhLt (xpI 0 (xist 4 (xloop (fun r57 => (lX9_lookt_57 P r57)) 100000))) (xild 4 (xpI 11 (xbinN zremR (xaldV 0 (xgfI 25 2 (xjn (wkL 2 4294967296 wkE) (zsp [] 2) (bX9_lookt_48 P r7) (fun j48 => (xcmpS tgeR rlGe rhS rlS rhLt j48 (xaldV 0 (xgfR 25 43 (xild 4 (xlal (xpL 0 (xlcmpR (xif0S teqR rlEq rhEq rlNe rhNe j48 (xild 2 (xpI 1 (xild 4 (xpI 11 (xbinN zdivR (xbin zshl (xbin zor (xist 2 j48))))))))))))))))))))))))))
set_option maxRecDepth 100000 in
set_option maxHeartbeats 4000000 in
theorem slX9_lookt_7 {d : Nat} [zGh] (P : zP d) (r7 : zK d) (hr7 : zSimJ 1 X_X9_look 2 P 7 r7) : zSim X_X9_look 2 P 7 (lX9_lookt_7 P r7) := by
  unfold lX9_lookt_7
  refine sm_iload (pc := 7) (n := 4) dX9_look_7 ?_
  refine sm_bipush (pc := 9) dX9_look_9 zc_b_66 ?_
  refine sm_icmpS_ge (pc := 11) (tgt := 54) dX9_look_11 (by decide) ?_ ?_
  · skip
    refine sm_iconst (pc := 54) dX9_look_54 zc_i_0 ?_
    refine sm_istore (pc := 55) (n := 4) dX9_look_55 ?_
    exact (sm_loopJ (j := 1) (fun G1 hG1 r57 hr57 => @slX9_lookt_57 d G1 P r57 hr57) _).use
  · skip
    refine sm_iload (pc := 14) (n := 4) dX9_look_14 ?_
    refine sm_bipush (pc := 16) dX9_look_16 zc_b_11 ?_
    refine sm_iremR (pc := 18) dX9_look_18 ?_
    refine sm_aloadV_n (pc := 19) (n := 0) dX9_look_19 rfl ?_
    refine gf_X9_153 (pc := 20) rfl dX9_look_20 ?_
    refine sm_jn (pc := 23) (pc' := 48) (j := 1) (wkL_ok wkE_ok) (zsp_ok _ _) (fun G0 hG0 => @sbX9_lookt_48 d G0 P r7 (hr7.mv hG0 (by decide))) (fun j48 hj48 => ?_)
    refine sm_icmpS_ge (pc := 23) (tgt := 48) dX9_look_23 (by decide) ?_ ?_
    · skip
      exact hj48.use
    · skip
      refine sm_aloadV_n (pc := 26) (n := 0) dX9_look_26 rfl ?_
      refine gf_X9_115 (pc := 27) rfl dX9_look_27 ?_
      refine sm_iload (pc := 30) (n := 4) dX9_look_30 ?_
      refine sm_laload (pc := 32) dX9_look_32 ?_
      refine sm_lconst (pc := 33) dX9_look_33 zc_l_0 ?_
      refine sm_lcmpR (pc := 34) dX9_look_34 ?_
      refine sm_ifS_eq (pc := 35) (tgt := 48) dX9_look_35 (by decide) ?_ ?_
      · skip
        exact hj48.use
      · skip
        refine sm_iload_n (pc := 38) (n := 2) dX9_look_38 rfl ?_
        refine sm_iconst (pc := 39) dX9_look_39 zc_i_1 ?_
        refine sm_iload (pc := 40) (n := 4) dX9_look_40 ?_
        refine sm_bipush (pc := 42) dX9_look_42 zc_b_11 ?_
        refine sm_idivR (pc := 44) dX9_look_44 ?_
        refine sm_ishl (pc := 45) dX9_look_45 ?_
        refine sm_ior (pc := 46) dX9_look_46 ?_
        refine sm_istore_n (pc := 47) (n := 2) dX9_look_47 rfl ?_
        exact hj48.use
noncomputable def b_X9_lookt {d : Nat} (P : zP d) : zK d := (xpI 0 (xist 2 (xpI 0 (xist 3 (xpI 0 (xist 4 (xloop (fun r7 => (lX9_lookt_7 P r7)) 100000)))))))
set_option maxRecDepth 100000 in
set_option maxHeartbeats 4000000 in
theorem s_X9_lookt {d : Nat} [zGh] (P : zP d) : zSim X_X9_look 2 P 0 (b_X9_lookt P) := by
  unfold b_X9_lookt
  refine sm_iconst (pc := 0) dX9_look_0 zc_i_0 ?_
  refine sm_istore_n (pc := 1) (n := 2) dX9_look_1 rfl ?_
  refine sm_iconst (pc := 2) dX9_look_2 zc_i_0 ?_
  refine sm_istore_n (pc := 3) (n := 3) dX9_look_3 rfl ?_
  refine sm_iconst (pc := 4) dX9_look_4 zc_i_0 ?_
  refine sm_istore (pc := 5) (n := 4) dX9_look_5 ?_
  exact (sm_loopJ (j := 1) (fun G1 hG1 r7 hr7 => @slX9_lookt_7 d G1 P r7 hr7) _).use
noncomputable def f_X9_lookt {d : Nat} : List zV → zH d → zP d → Bool := zfn 5 (b_X9_lookt )
theorem m_X9_lookt {d : Nat} : zMet (d := d) X_X9_look yX9_look 2 (f_X9_lookt ) := zmet_mk (X := X_X9_look) (by decide) rfl rfl (fun P => s_X9_lookt P)

noncomputable def bX9_kindt_19 {d : Nat} (P : zP d) : zK d := (xpI 4294967295 (xiret P))
set_option maxRecDepth 100000 in
set_option maxHeartbeats 4000000 in
theorem sbX9_kindt_19 {d : Nat} [zGh] (P : zP d) : zSim X_X9_kind 3 P 19 (bX9_kindt_19 P) := by
  unfold bX9_kindt_19
  refine sm_iconst (pc := 19) dX9_kind_19 zc_i_m1 ?_
  exact sm_ireturn (pc := 20) dX9_kind_20 rfl
noncomputable def bX9_kindt_105 {d : Nat} (P : zP d) (r60 : zK d) : zK d := (xist 3 (xincR 4 1 r60))
set_option maxRecDepth 100000 in
set_option maxHeartbeats 4000000 in
theorem sbX9_kindt_105 {d : Nat} [zGh] (P : zP d) (r60 : zK d) (hr60 : zSimJ 1 X_X9_kind 3 P 60 r60) : zSim X_X9_kind 3 P 105 (bX9_kindt_105 P r60) := by
  unfold bX9_kindt_105
  refine sm_istore_n (pc := 105) (n := 3) dX9_kind_105 rfl ?_
  refine sm_iincR (pc := 106) (n := 4) dX9_kind_106 zc_i_1 ?_
  refine sm_goto (pc := 109) (tgt := 60) dX9_kind_109 (by decide) ?_
  exact hr60.use
noncomputable def bX9_kindt_104 {d : Nat} (P : zP d) (j105 : zK d) : zK d := (xpI 0 j105)
set_option maxRecDepth 100000 in
set_option maxHeartbeats 4000000 in
theorem sbX9_kindt_104 {d : Nat} [zGh] (P : zP d) (j105 : zK d) (hj105 : zSimJ 1 X_X9_kind 3 P 105 j105) : zSim X_X9_kind 3 P 104 (bX9_kindt_104 P j105) := by
  unfold bX9_kindt_104
  refine sm_iconst (pc := 104) dX9_kind_104 zc_i_0 ?_
  exact hj105.use
noncomputable def bX9_kindt_100 {d : Nat} (P : zP d) (j105 : zK d) : zK d := (xpI 1 j105)
set_option maxRecDepth 100000 in
set_option maxHeartbeats 4000000 in
theorem sbX9_kindt_100 {d : Nat} [zGh] (P : zP d) (j105 : zK d) (hj105 : zSimJ 1 X_X9_kind 3 P 105 j105) : zSim X_X9_kind 3 P 100 (bX9_kindt_100 P j105) := by
  unfold bX9_kindt_100
  refine sm_iconst (pc := 100) dX9_kind_100 zc_i_1 ?_
  refine sm_goto (pc := 101) (tgt := 105) dX9_kind_101 (by decide) ?_
  exact hj105.use
noncomputable def lX9_kindt_60 {d : Nat} (P : zP d) (r60 : zK d) : zK d := (xild 4 (xaldV 0 (xgfI 25 2 (xcmpS tgeR rlGe rhS rlS rhLt (xild 3 (xcS 1 0 0 (zstr f_X9_one) (xiret P))) (xild 3 (xjn wkE (zsp [zI 4294967298] 1) (bX9_kindt_105 P r60) (fun j105 => (xjoin (bX9_kindt_104 P j105) (fun j104 => (xif0S teqR rlEq rhEq rlNe rhNe j104 (xaldV 0 (xgfR 25 8 (xild 4 (xalQ 1 (xjoin (bX9_kindt_100 P j105) (fun j100 => (xif0S teqR rlEq rhEq rlNe rhNe (xaldV 0 (xgfR 25 43 (xpI 11 (xild 1 (xbin zmulR (xild 4 (xbin zaddR (xlal (xpL 0 (xlcmpR (xif0S teqR rlEq rhEq rlNe rhNe j100 j104))))))))))) j100)))))))))))))))))
set_option maxRecDepth 100000 in
set_option maxHeartbeats 4000000 in
theorem slX9_kindt_60 {d : Nat} [zGh] (P : zP d) (r60 : zK d) (hr60 : zSimJ 1 X_X9_kind 3 P 60 r60) : zSim X_X9_kind 3 P 60 (lX9_kindt_60 P r60) := by
  unfold lX9_kindt_60
  refine sm_iload (pc := 60) (n := 4) dX9_kind_60 ?_
  refine sm_aloadV_n (pc := 62) (n := 0) dX9_kind_62 rfl ?_
  refine gf_X9_153 (pc := 63) rfl dX9_kind_63 ?_
  refine sm_icmpS_ge (pc := 66) (tgt := 112) dX9_kind_66 (by decide) ?_ ?_
  · skip
    refine sm_iload_n (pc := 112) (n := 3) dX9_kind_112 rfl ?_
    refine sm_cS (pc := 113) (n := 1) (mc := 0) (ms := 0) (zMet_str m_X9_one) (cr_X9_187 (X := X_X9_kind) (fr := 3) (frc := 1) (pc := 113) (mc := 0) (ms := 0) rfl (by decide) dX9_kind_113) ?_
    exact sm_ireturn (pc := 116) dX9_kind_116 rfl
  · skip
    refine sm_iload_n (pc := 69) (n := 3) dX9_kind_69 rfl ?_
    refine sm_jn (pc := 70) (pc' := 105) (j := 1) wkE_ok (zsp_ok _ _) (fun G0 hG0 => @sbX9_kindt_105 d G0 P r60 (hr60.mv hG0 (by decide))) (fun j105 hj105 => ?_)
    refine sm_joinJ (pc := 70) (pc' := 104) (j := 1) (fun G0 hG0 => @sbX9_kindt_104 d G0 P j105 (hj105.mv hG0 (by decide))) (fun j104 hj104 => ?_)
    refine sm_ifS_eq (pc := 70) (tgt := 104) dX9_kind_70 (by decide) ?_ ?_
    · skip
      exact hj104.use
    · skip
      refine sm_aloadV_n (pc := 73) (n := 0) dX9_kind_73 rfl ?_
      refine gf_X9_26 (pc := 74) rfl dX9_kind_74 ?_
      refine sm_iload (pc := 77) (n := 4) dX9_kind_77 ?_
      refine sm_baloadQ (pc := 79) dX9_kind_79 ?_
      refine sm_joinJ (pc := 80) (pc' := 100) (j := 1) (fun G0 hG0 => @sbX9_kindt_100 d G0 P j105 (hj105.mv hG0 (by decide))) (fun j100 hj100 => ?_)
      refine sm_ifS_ne (pc := 80) (tgt := 100) dX9_kind_80 (by decide) ?_ ?_
      · skip
        exact hj100.use
      · skip
        refine sm_aloadV_n (pc := 83) (n := 0) dX9_kind_83 rfl ?_
        refine gf_X9_115 (pc := 84) rfl dX9_kind_84 ?_
        refine sm_bipush (pc := 87) dX9_kind_87 zc_b_11 ?_
        refine sm_iload_n (pc := 89) (n := 1) dX9_kind_89 rfl ?_
        refine sm_imulR (pc := 90) dX9_kind_90 ?_
        refine sm_iload (pc := 91) (n := 4) dX9_kind_91 ?_
        refine sm_iaddR (pc := 93) dX9_kind_93 ?_
        refine sm_laload (pc := 94) dX9_kind_94 ?_
        refine sm_lconst (pc := 95) dX9_kind_95 zc_l_0 ?_
        refine sm_lcmpR (pc := 96) dX9_kind_96 ?_
        refine sm_ifS_ne (pc := 97) (tgt := 104) dX9_kind_97 (by decide) ?_ ?_
        · skip
          exact hj104.use
        · skip
          exact hj100.use
noncomputable def bX9_kindt_48 {d : Nat} (P : zP d) : zK d := (xcV 25 4 0 0 (zstr f_X9_areWhole) (xcS 1 0 0 (zstr f_X9_one) (xiret P)))
set_option maxRecDepth 100000 in
set_option maxHeartbeats 4000000 in
theorem sbX9_kindt_48 {d : Nat} [zGh] (P : zP d) : zSim X_X9_kind 3 P 48 (bX9_kindt_48 P) := by
  unfold bX9_kindt_48
  refine sm_cV (pc := 48) (ci := 9) (n := 4) (mc := 0) (ms := 0) rfl (zMet_str m_X9_areWhole) (cr_X9_343 (X := X_X9_kind) (fr := 3) (frc := 2) (pc := 48) (mc := 0) (ms := 0) rfl (by decide) dX9_kind_48) ?_
  refine sm_cS (pc := 51) (n := 1) (mc := 0) (ms := 0) (zMet_str m_X9_one) (cr_X9_187 (X := X_X9_kind) (fr := 3) (frc := 1) (pc := 51) (mc := 0) (ms := 0) rfl (by decide) dX9_kind_51) ?_
  exact sm_ireturn (pc := 54) dX9_kind_54 rfl
noncomputable def bX9_kindt_37 {d : Nat} (P : zP d) : zK d := (xild 2 (xpI 2 (xbinN zremR (xjoin (bX9_kindt_48 P) (fun j48 => (xif0S teqR rlEq rhEq rlNe rhNe (xpI 1 j48) (xpI 0 j48)))))))
set_option maxRecDepth 100000 in
set_option maxHeartbeats 4000000 in
theorem sbX9_kindt_37 {d : Nat} [zGh] (P : zP d) : zSim X_X9_kind 3 P 37 (bX9_kindt_37 P) := by
  unfold bX9_kindt_37
  refine sm_iload_n (pc := 37) (n := 2) dX9_kind_37 rfl ?_
  refine sm_iconst (pc := 38) dX9_kind_38 zc_i_2 ?_
  refine sm_iremR (pc := 39) dX9_kind_39 ?_
  refine sm_joinJ (pc := 40) (pc' := 48) (j := 1) (fun G0 hG0 => @sbX9_kindt_48 d G0 P) (fun j48 hj48 => ?_)
  refine sm_ifS_ne (pc := 40) (tgt := 47) dX9_kind_40 (by decide) ?_ ?_
  · skip
    refine sm_iconst (pc := 47) dX9_kind_47 zc_i_0 ?_
    exact hj48.use
  · skip
    refine sm_iconst (pc := 43) dX9_kind_43 zc_i_1 ?_
    refine sm_goto (pc := 44) (tgt := 48) dX9_kind_44 (by decide) ?_
    exact hj48.use
noncomputable def b_X9_kindt {d : Nat} (P : zP d) : zK d := (xild 1 (xcS 1 0 0 (zstr f_X9_isSlota) (xjoin (bX9_kindt_19 P) (fun j19 => (xif0S teqR rlEq rhEq rlNe rhNe j19 (xild 2 (xi2lR (xpL 0 (xpL 4 (xcS 3 0 0 (zstr f_X9_isIna) (xif0S teqR rlEq rhEq rlNe rhNe j19 (xild 2 (xif0S tleR rlS rhLe rlGt rhS (xpI 1 (xist 3 (xpI 0 (xist 4 (xloop (fun r60 => (lX9_kindt_60 P r60)) 100000))))) (xaldV 0 (xild 1 (xild 2 (xpI 2 (xjoin (bX9_kindt_37 P) (fun j37 => (xcmpS tleR rlS rhLe rlGt rhS (xpI 0 j37) (xpI 1 j37)))))))))))))))))))))
set_option maxRecDepth 100000 in
set_option maxHeartbeats 4000000 in
theorem s_X9_kindt {d : Nat} [zGh] (P : zP d) : zSim X_X9_kind 3 P 0 (b_X9_kindt P) := by
  unfold b_X9_kindt
  refine sm_iload_n (pc := 0) (n := 1) dX9_kind_0 rfl ?_
  refine sm_cS (pc := 1) (n := 1) (mc := 0) (ms := 0) (zMet_str m_X9_isSlota) (cr_X9_319 (X := X_X9_kind) (fr := 3) (frc := 2) (pc := 1) (mc := 0) (ms := 0) rfl (by decide) dX9_kind_1) ?_
  refine sm_joinJ (pc := 4) (pc' := 19) (j := 1) (fun G0 hG0 => @sbX9_kindt_19 d G0 P) (fun j19 hj19 => ?_)
  refine sm_ifS_eq (pc := 4) (tgt := 19) dX9_kind_4 (by decide) ?_ ?_
  · skip
    exact hj19.use
  · skip
    refine sm_iload_n (pc := 7) (n := 2) dX9_kind_7 rfl ?_
    refine sm_i2lR (pc := 8) dX9_kind_8 ?_
    refine sm_lconst (pc := 9) dX9_kind_9 zc_l_0 ?_
    refine sm_ldc2 (pc := 10) dX9_kind_10 wd_1337 zc_cl_4 ?_
    refine sm_cS (pc := 13) (n := 3) (mc := 0) (ms := 0) (zMet_str m_X9_isIna) (cr_X9_283 (X := X_X9_kind) (fr := 3) (frc := 1) (pc := 13) (mc := 0) (ms := 0) rfl (by decide) dX9_kind_13) ?_
    refine sm_ifS_ne (pc := 16) (tgt := 21) dX9_kind_16 (by decide) ?_ ?_
    · skip
      refine sm_iload_n (pc := 21) (n := 2) dX9_kind_21 rfl ?_
      refine sm_ifS_le (pc := 22) (tgt := 55) dX9_kind_22 (by decide) ?_ ?_
      · skip
        refine sm_iconst (pc := 55) dX9_kind_55 zc_i_1 ?_
        refine sm_istore_n (pc := 56) (n := 3) dX9_kind_56 rfl ?_
        refine sm_iconst (pc := 57) dX9_kind_57 zc_i_0 ?_
        refine sm_istore (pc := 58) (n := 4) dX9_kind_58 ?_
        exact (sm_loopJ (j := 1) (fun G1 hG1 r60 hr60 => @slX9_kindt_60 d G1 P r60 hr60) _).use
      · skip
        refine sm_aloadV_n (pc := 25) (n := 0) dX9_kind_25 rfl ?_
        refine sm_iload_n (pc := 26) (n := 1) dX9_kind_26 rfl ?_
        refine sm_iload_n (pc := 27) (n := 2) dX9_kind_27 rfl ?_
        refine sm_iconst (pc := 28) dX9_kind_28 zc_i_2 ?_
        refine sm_joinJ (pc := 29) (pc' := 37) (j := 1) (fun G0 hG0 => @sbX9_kindt_37 d G0 P) (fun j37 hj37 => ?_)
        refine sm_icmpS_le (pc := 29) (tgt := 36) dX9_kind_29 (by decide) ?_ ?_
        · skip
          refine sm_iconst (pc := 36) dX9_kind_36 zc_i_0 ?_
          exact hj37.use
        · skip
          refine sm_iconst (pc := 32) dX9_kind_32 zc_i_1 ?_
          refine sm_goto (pc := 33) (tgt := 37) dX9_kind_33 (by decide) ?_
          exact hj37.use
    · skip
      exact hj19.use
noncomputable def f_X9_kindt {d : Nat} : List zV → zH d → zP d → Bool := zfn 5 (b_X9_kindt )
theorem m_X9_kindt {d : Nat} : zMet (d := d) X_X9_kind yX9_kind 3 (f_X9_kindt ) := zmet_mk (X := X_X9_kind) (by decide) rfl rfl (fun P => s_X9_kindt P)

noncomputable def bX9_determinantt_301 {d : Nat} (P : zP d) : zK d := (xlret P)
set_option maxRecDepth 100000 in
set_option maxHeartbeats 4000000 in
theorem sbX9_determinantt_301 {d : Nat} [zGh] (P : zP d) : zSim X_X9_determinant 1 P 301 (bX9_determinantt_301 P) := by
  unfold bX9_determinantt_301
  exact sm_lreturn (pc := 301) dX9_determinant_301 rfl
noncomputable def cX9_determinantt_242 {d : Nat} (P : zP d) (r166 : zK d) : zK d := (xincR 8 1 r166)
set_option maxRecDepth 100000 in
set_option maxHeartbeats 4000000 in
theorem scX9_determinantt_242 {d : Nat} [zGh] (P : zP d) (r166 : zK d) (hr166 : zSimJ 1 X_X9_determinant 1 P 166 r166) : zSim X_X9_determinant 1 P 242 (cX9_determinantt_242 P r166) := by
  unfold cX9_determinantt_242
  refine sm_iincR (pc := 242) (n := 8) dX9_determinant_242 zc_i_1 ?_
  refine sm_goto (pc := 245) (tgt := 166) dX9_determinant_245 (by decide) ?_
  exact hr166.use
noncomputable def cX9_determinantt_208 {d : Nat} (P : zP d) (r166 : zK d) : zK d := (xbin zaddR (xlalN (xbinj zmulj (xaldV 0 (xgfR 25 41 (xpI 11 (xild 7 (xbin zmulR (xild 5 (xbin zaddR (xlalN (xaldV 0 (xgfR 25 41 (xpI 11 (xild 5 (xbin zmulR (xild 8 (xbin zaddR (xlalN (xbinj zmulj (xbinj zsubj (xlld 2 (xdvT (xlasN (cX9_determinantt_242 P r166)))))))))))))))))))))))))
set_option maxRecDepth 100000 in
set_option maxHeartbeats 4000000 in
theorem scX9_determinantt_208 {d : Nat} [zGh] (P : zP d) (r166 : zK d) (hr166 : zSimJ 1 X_X9_determinant 1 P 166 r166) : zSim X_X9_determinant 1 P 208 (cX9_determinantt_208 P r166) := by
  unfold cX9_determinantt_208
  refine sm_iaddR (pc := 208) dX9_determinant_208 ?_
  refine sm_laloadN (pc := 209) dX9_determinant_209 ?_
  refine sm_lmul (pc := 210) dX9_determinant_210 ?_
  refine sm_aloadV_n (pc := 211) (n := 0) dX9_determinant_211 rfl ?_
  refine gf_X9_108 (pc := 212) rfl dX9_determinant_212 ?_
  refine sm_bipush (pc := 215) dX9_determinant_215 zc_b_11 ?_
  refine sm_iload (pc := 217) (n := 7) dX9_determinant_217 ?_
  refine sm_imulR (pc := 219) dX9_determinant_219 ?_
  refine sm_iload (pc := 220) (n := 5) dX9_determinant_220 ?_
  refine sm_iaddR (pc := 222) dX9_determinant_222 ?_
  refine sm_laloadN (pc := 223) dX9_determinant_223 ?_
  refine sm_aloadV_n (pc := 224) (n := 0) dX9_determinant_224 rfl ?_
  refine gf_X9_108 (pc := 225) rfl dX9_determinant_225 ?_
  refine sm_bipush (pc := 228) dX9_determinant_228 zc_b_11 ?_
  refine sm_iload (pc := 230) (n := 5) dX9_determinant_230 ?_
  refine sm_imulR (pc := 232) dX9_determinant_232 ?_
  refine sm_iload (pc := 233) (n := 8) dX9_determinant_233 ?_
  refine sm_iaddR (pc := 235) dX9_determinant_235 ?_
  refine sm_laloadN (pc := 236) dX9_determinant_236 ?_
  refine sm_lmul (pc := 237) dX9_determinant_237 ?_
  refine sm_lsub (pc := 238) dX9_determinant_238 ?_
  refine sm_lload_n (pc := 239) (n := 2) dX9_determinant_239 rfl ?_
  refine sm_ldivT (pc := 240) dX9_determinant_240 ?_
  refine sm_lastoreN (pc := 241) dX9_determinant_241 ?_
  exact scX9_determinantt_242 P r166 hr166
noncomputable def lX9_determinantt_166 {d : Nat} (P : zP d) (r154 : zK d) (r166 : zK d) : zK d := (xild 8 (xild 1 (xcmpS tgeR rlGe rhS rlS rhLt (xincR 7 1 r154) (xaldV 0 (xgfR 25 41 (xpI 11 (xild 7 (xbin zmulR (xild 8 (xbin zaddR (xaldV 0 (xgfR 25 41 (xpI 11 (xild 7 (xbin zmulR (xild 8 (xbin zaddR (xlalN (xaldV 0 (xgfR 25 41 (xpI 11 (xild 5 (xbin zmulR (xild 5 (cX9_determinantt_208 P r166)))))))))))))))))))))))))
set_option maxRecDepth 100000 in
set_option maxHeartbeats 4000000 in
theorem slX9_determinantt_166 {d : Nat} [zGh] (P : zP d) (r154 : zK d) (r166 : zK d) (hr154 : zSimJ 1 X_X9_determinant 1 P 154 r154) (hr166 : zSimJ 1 X_X9_determinant 1 P 166 r166) : zSim X_X9_determinant 1 P 166 (lX9_determinantt_166 P r154 r166) := by
  unfold lX9_determinantt_166
  refine sm_iload (pc := 166) (n := 8) dX9_determinant_166 ?_
  refine sm_iload_n (pc := 168) (n := 1) dX9_determinant_168 rfl ?_
  refine sm_icmpS_ge (pc := 169) (tgt := 248) dX9_determinant_169 (by decide) ?_ ?_
  · skip
    refine sm_iincR (pc := 248) (n := 7) dX9_determinant_248 zc_i_1 ?_
    refine sm_goto (pc := 251) (tgt := 154) dX9_determinant_251 (by decide) ?_
    exact hr154.use
  · skip
    refine sm_aloadV_n (pc := 172) (n := 0) dX9_determinant_172 rfl ?_
    refine gf_X9_108 (pc := 173) rfl dX9_determinant_173 ?_
    refine sm_bipush (pc := 176) dX9_determinant_176 zc_b_11 ?_
    refine sm_iload (pc := 178) (n := 7) dX9_determinant_178 ?_
    refine sm_imulR (pc := 180) dX9_determinant_180 ?_
    refine sm_iload (pc := 181) (n := 8) dX9_determinant_181 ?_
    refine sm_iaddR (pc := 183) dX9_determinant_183 ?_
    refine sm_aloadV_n (pc := 184) (n := 0) dX9_determinant_184 rfl ?_
    refine gf_X9_108 (pc := 185) rfl dX9_determinant_185 ?_
    refine sm_bipush (pc := 188) dX9_determinant_188 zc_b_11 ?_
    refine sm_iload (pc := 190) (n := 7) dX9_determinant_190 ?_
    refine sm_imulR (pc := 192) dX9_determinant_192 ?_
    refine sm_iload (pc := 193) (n := 8) dX9_determinant_193 ?_
    refine sm_iaddR (pc := 195) dX9_determinant_195 ?_
    refine sm_laloadN (pc := 196) dX9_determinant_196 ?_
    refine sm_aloadV_n (pc := 197) (n := 0) dX9_determinant_197 rfl ?_
    refine gf_X9_108 (pc := 198) rfl dX9_determinant_198 ?_
    refine sm_bipush (pc := 201) dX9_determinant_201 zc_b_11 ?_
    refine sm_iload (pc := 203) (n := 5) dX9_determinant_203 ?_
    refine sm_imulR (pc := 205) dX9_determinant_205 ?_
    refine sm_iload (pc := 206) (n := 5) dX9_determinant_206 ?_
    exact scX9_determinantt_208 P r166 hr166
noncomputable def lX9_determinantt_154 {d : Nat} (P : zP d) (r154 : zK d) (r8 : zK d) : zK d := (xild 7 (xild 1 (xcmpS tgeR rlGe rhS rlS rhLt (xaldV 0 (xgfR 25 41 (xpI 11 (xild 5 (xbin zmulR (xild 5 (xbin zaddR (xlalN (xlst 2 (xincR 5 1 r8)))))))))) (xild 5 (xpI 1 (xbin zaddR (xist 8 (xloop (fun r166 => (lX9_determinantt_166 P r154 r166)) 100000))))))))
set_option maxRecDepth 100000 in
set_option maxHeartbeats 4000000 in
theorem slX9_determinantt_154 {d : Nat} [zGh] (P : zP d) (r154 : zK d) (r8 : zK d) (hr154 : zSimJ 1 X_X9_determinant 1 P 154 r154) (hr8 : zSimJ 1 X_X9_determinant 1 P 8 r8) : zSim X_X9_determinant 1 P 154 (lX9_determinantt_154 P r154 r8) := by
  unfold lX9_determinantt_154
  refine sm_iload (pc := 154) (n := 7) dX9_determinant_154 ?_
  refine sm_iload_n (pc := 156) (n := 1) dX9_determinant_156 rfl ?_
  refine sm_icmpS_ge (pc := 157) (tgt := 254) dX9_determinant_157 (by decide) ?_ ?_
  · skip
    refine sm_aloadV_n (pc := 254) (n := 0) dX9_determinant_254 rfl ?_
    refine gf_X9_108 (pc := 255) rfl dX9_determinant_255 ?_
    refine sm_bipush (pc := 258) dX9_determinant_258 zc_b_11 ?_
    refine sm_iload (pc := 260) (n := 5) dX9_determinant_260 ?_
    refine sm_imulR (pc := 262) dX9_determinant_262 ?_
    refine sm_iload (pc := 263) (n := 5) dX9_determinant_263 ?_
    refine sm_iaddR (pc := 265) dX9_determinant_265 ?_
    refine sm_laloadN (pc := 266) dX9_determinant_266 ?_
    refine sm_lstore_n (pc := 267) (n := 2) dX9_determinant_267 rfl ?_
    refine sm_iincR (pc := 268) (n := 5) dX9_determinant_268 zc_i_1 ?_
    refine sm_goto (pc := 271) (tgt := 8) dX9_determinant_271 (by decide) ?_
    exact hr8.use
  · skip
    refine sm_iload (pc := 160) (n := 5) dX9_determinant_160 ?_
    refine sm_iconst (pc := 162) dX9_determinant_162 zc_i_1 ?_
    refine sm_iaddR (pc := 163) dX9_determinant_163 ?_
    refine sm_istore (pc := 164) (n := 8) dX9_determinant_164 ?_
    exact (sm_loopJ (j := 1) (fun G1 hG1 r166 hr166 => @slX9_determinantt_166 d G1 P r154 r166 (hr154.mv hG1 (by decide)) hr166) _).use
noncomputable def bX9_determinantt_148 {d : Nat} (P : zP d) (r8 : zK d) : zK d := (xild 5 (xpI 1 (xbin zaddR (xist 7 (xloop (fun r154 => (lX9_determinantt_154 P r154 r8)) 100000)))))
set_option maxRecDepth 100000 in
set_option maxHeartbeats 4000000 in
theorem sbX9_determinantt_148 {d : Nat} [zGh] (P : zP d) (r8 : zK d) (hr8 : zSimJ 1 X_X9_determinant 1 P 8 r8) : zSim X_X9_determinant 1 P 148 (bX9_determinantt_148 P r8) := by
  unfold bX9_determinantt_148
  refine sm_iload (pc := 148) (n := 5) dX9_determinant_148 ?_
  refine sm_iconst (pc := 150) dX9_determinant_150 zc_i_1 ?_
  refine sm_iaddR (pc := 151) dX9_determinant_151 ?_
  refine sm_istore (pc := 152) (n := 7) dX9_determinant_152 ?_
  exact (sm_loopJ (j := 1) (fun G1 hG1 r154 hr154 => @slX9_determinantt_154 d G1 P r154 r8 hr154 (hr8.mv hG1 (by decide))) _).use
noncomputable def bX9_determinantt_136 {d : Nat} (P : zP d) (r8 : zK d) : zK d := (xild 6 (xild 5 (xjoin (bX9_determinantt_148 P r8) (fun j148 => (xcmpS teqR rlEq rhEq rlNe rhNe j148 (xild 4 (xun zneg (xist 4 j148))))))))
set_option maxRecDepth 100000 in
set_option maxHeartbeats 4000000 in
theorem sbX9_determinantt_136 {d : Nat} [zGh] (P : zP d) (r8 : zK d) (hr8 : zSimJ 1 X_X9_determinant 1 P 8 r8) : zSim X_X9_determinant 1 P 136 (bX9_determinantt_136 P r8) := by
  unfold bX9_determinantt_136
  refine sm_iload (pc := 136) (n := 6) dX9_determinant_136 ?_
  refine sm_iload (pc := 138) (n := 5) dX9_determinant_138 ?_
  refine sm_joinJ (pc := 140) (pc' := 148) (j := 1) (fun G0 hG0 => @sbX9_determinantt_148 d G0 P r8 (hr8.mv hG0 (by decide))) (fun j148 hj148 => ?_)
  refine sm_icmpS_eq (pc := 140) (tgt := 148) dX9_determinant_140 (by decide) ?_ ?_
  · skip
    exact hj148.use
  · skip
    refine sm_iload (pc := 143) (n := 4) dX9_determinant_143 ?_
    refine sm_ineg (pc := 145) dX9_determinant_145 ?_
    refine sm_istore (pc := 146) (n := 4) dX9_determinant_146 ?_
    exact hj148.use
noncomputable def cX9_determinantt_105 {d : Nat} (P : zP d) (r61 : zK d) : zK d := (xpI 11 (xild 5 (xbin zmulR (xild 7 (xbin zaddR (xlalN (xlasN (xaldV 0 (xgfR 25 41 (xpI 11 (xild 5 (xbin zmulR (xild 7 (xbin zaddR (xlld 8 (xlasN (xincR 7 1 r61)))))))))))))))))
set_option maxRecDepth 100000 in
set_option maxHeartbeats 4000000 in
theorem scX9_determinantt_105 {d : Nat} [zGh] (P : zP d) (r61 : zK d) (hr61 : zSimJ 1 X_X9_determinant 1 P 61 r61) : zSim X_X9_determinant 1 P 105 (cX9_determinantt_105 P r61) := by
  unfold cX9_determinantt_105
  refine sm_bipush (pc := 105) dX9_determinant_105 zc_b_11 ?_
  refine sm_iload (pc := 107) (n := 5) dX9_determinant_107 ?_
  refine sm_imulR (pc := 109) dX9_determinant_109 ?_
  refine sm_iload (pc := 110) (n := 7) dX9_determinant_110 ?_
  refine sm_iaddR (pc := 112) dX9_determinant_112 ?_
  refine sm_laloadN (pc := 113) dX9_determinant_113 ?_
  refine sm_lastoreN (pc := 114) dX9_determinant_114 ?_
  refine sm_aloadV_n (pc := 115) (n := 0) dX9_determinant_115 rfl ?_
  refine gf_X9_108 (pc := 116) rfl dX9_determinant_116 ?_
  refine sm_bipush (pc := 119) dX9_determinant_119 zc_b_11 ?_
  refine sm_iload (pc := 121) (n := 5) dX9_determinant_121 ?_
  refine sm_imulR (pc := 123) dX9_determinant_123 ?_
  refine sm_iload (pc := 124) (n := 7) dX9_determinant_124 ?_
  refine sm_iaddR (pc := 126) dX9_determinant_126 ?_
  refine sm_lload (pc := 127) (n := 8) dX9_determinant_127 ?_
  refine sm_lastoreN (pc := 129) dX9_determinant_129 ?_
  refine sm_iincR (pc := 130) (n := 7) dX9_determinant_130 zc_i_1 ?_
  refine sm_goto (pc := 133) (tgt := 61) dX9_determinant_133 (by decide) ?_
  exact hr61.use
noncomputable def lX9_determinantt_61 {d : Nat} (P : zP d) (r61 : zK d) (r8 : zK d) : zK d := (xild 7 (xild 1 (xjoin (bX9_determinantt_136 P r8) (fun j136 => (xcmpS tgeR rlGe rhS rlS rhLt j136 (xild 6 (xild 5 (xcmpS teqR rlEq rhEq rlNe rhNe j136 (xaldV 0 (xgfR 25 41 (xpI 11 (xild 6 (xbin zmulR (xild 7 (xbin zaddR (xlalN (xlst 8 (xaldV 0 (xgfR 25 41 (xpI 11 (xild 6 (xbin zmulR (xild 7 (xbin zaddR (xaldV 0 (xgfR 25 41 (cX9_determinantt_105 P r61)))))))))))))))))))))))))))
set_option maxRecDepth 100000 in
set_option maxHeartbeats 4000000 in
theorem slX9_determinantt_61 {d : Nat} [zGh] (P : zP d) (r61 : zK d) (r8 : zK d) (hr61 : zSimJ 1 X_X9_determinant 1 P 61 r61) (hr8 : zSimJ 1 X_X9_determinant 1 P 8 r8) : zSim X_X9_determinant 1 P 61 (lX9_determinantt_61 P r61 r8) := by
  unfold lX9_determinantt_61
  refine sm_iload (pc := 61) (n := 7) dX9_determinant_61 ?_
  refine sm_iload_n (pc := 63) (n := 1) dX9_determinant_63 rfl ?_
  refine sm_joinJ (pc := 64) (pc' := 136) (j := 1) (fun G0 hG0 => @sbX9_determinantt_136 d G0 P r8 (hr8.mv hG0 (by decide))) (fun j136 hj136 => ?_)
  refine sm_icmpS_ge (pc := 64) (tgt := 136) dX9_determinant_64 (by decide) ?_ ?_
  · skip
    exact hj136.use
  · skip
    refine sm_iload (pc := 67) (n := 6) dX9_determinant_67 ?_
    refine sm_iload (pc := 69) (n := 5) dX9_determinant_69 ?_
    refine sm_icmpS_eq (pc := 71) (tgt := 136) dX9_determinant_71 (by decide) ?_ ?_
    · skip
      exact hj136.use
    · skip
      refine sm_aloadV_n (pc := 74) (n := 0) dX9_determinant_74 rfl ?_
      refine gf_X9_108 (pc := 75) rfl dX9_determinant_75 ?_
      refine sm_bipush (pc := 78) dX9_determinant_78 zc_b_11 ?_
      refine sm_iload (pc := 80) (n := 6) dX9_determinant_80 ?_
      refine sm_imulR (pc := 82) dX9_determinant_82 ?_
      refine sm_iload (pc := 83) (n := 7) dX9_determinant_83 ?_
      refine sm_iaddR (pc := 85) dX9_determinant_85 ?_
      refine sm_laloadN (pc := 86) dX9_determinant_86 ?_
      refine sm_lstore (pc := 87) (n := 8) dX9_determinant_87 ?_
      refine sm_aloadV_n (pc := 89) (n := 0) dX9_determinant_89 rfl ?_
      refine gf_X9_108 (pc := 90) rfl dX9_determinant_90 ?_
      refine sm_bipush (pc := 93) dX9_determinant_93 zc_b_11 ?_
      refine sm_iload (pc := 95) (n := 6) dX9_determinant_95 ?_
      refine sm_imulR (pc := 97) dX9_determinant_97 ?_
      refine sm_iload (pc := 98) (n := 7) dX9_determinant_98 ?_
      refine sm_iaddR (pc := 100) dX9_determinant_100 ?_
      refine sm_aloadV_n (pc := 101) (n := 0) dX9_determinant_101 rfl ?_
      refine gf_X9_108 (pc := 102) rfl dX9_determinant_102 ?_
      exact scX9_determinantt_105 P r61 hr61
noncomputable def bX9_determinantt_50 {d : Nat} (P : zP d) (r8 : zK d) : zK d := (xild 6 (xild 1 (xcmpS teqR rlEq rhEq rlNe rhNe (xpL 0 (xlret P)) (xpI 0 (xist 7 (xloop (fun r61 => (lX9_determinantt_61 P r61 r8)) 100000))))))
set_option maxRecDepth 100000 in
set_option maxHeartbeats 4000000 in
theorem sbX9_determinantt_50 {d : Nat} [zGh] (P : zP d) (r8 : zK d) (hr8 : zSimJ 1 X_X9_determinant 1 P 8 r8) : zSim X_X9_determinant 1 P 50 (bX9_determinantt_50 P r8) := by
  unfold bX9_determinantt_50
  refine sm_iload (pc := 50) (n := 6) dX9_determinant_50 ?_
  refine sm_iload_n (pc := 52) (n := 1) dX9_determinant_52 rfl ?_
  refine sm_icmpS_ne (pc := 53) (tgt := 58) dX9_determinant_53 (by decide) ?_ ?_
  · skip
    refine sm_iconst (pc := 58) dX9_determinant_58 zc_i_0 ?_
    refine sm_istore (pc := 59) (n := 7) dX9_determinant_59 ?_
    exact (sm_loopJ (j := 1) (fun G1 hG1 r61 hr61 => @slX9_determinantt_61 d G1 P r61 r8 hr61 (hr8.mv hG1 (by decide))) _).use
  · skip
    refine sm_lconst (pc := 56) dX9_determinant_56 zc_l_0 ?_
    exact sm_lreturn (pc := 57) dX9_determinant_57 rfl
noncomputable def lX9_determinantt_20 {d : Nat} (P : zP d) (r20 : zK d) (r8 : zK d) : zK d := (xild 6 (xild 1 (xjoin (bX9_determinantt_50 P r8) (fun j50 => (xcmpS tgeR rlGe rhS rlS rhLt j50 (xaldV 0 (xgfR 25 41 (xpI 11 (xild 6 (xbin zmulR (xild 5 (xbin zaddR (xlalz (xincR 6 1 r20) j50)))))))))))))
set_option maxRecDepth 100000 in
set_option maxHeartbeats 4000000 in
theorem slX9_determinantt_20 {d : Nat} [zGh] (P : zP d) (r20 : zK d) (r8 : zK d) (hr20 : zSimJ 1 X_X9_determinant 1 P 20 r20) (hr8 : zSimJ 1 X_X9_determinant 1 P 8 r8) : zSim X_X9_determinant 1 P 20 (lX9_determinantt_20 P r20 r8) := by
  unfold lX9_determinantt_20
  refine sm_iload (pc := 20) (n := 6) dX9_determinant_20 ?_
  refine sm_iload_n (pc := 22) (n := 1) dX9_determinant_22 rfl ?_
  refine sm_joinJ (pc := 23) (pc' := 50) (j := 1) (fun G0 hG0 => @sbX9_determinantt_50 d G0 P r8 (hr8.mv hG0 (by decide))) (fun j50 hj50 => ?_)
  refine sm_icmpS_ge (pc := 23) (tgt := 50) dX9_determinant_23 (by decide) ?_ ?_
  · skip
    exact hj50.use
  · skip
    refine sm_aloadV_n (pc := 26) (n := 0) dX9_determinant_26 rfl ?_
    refine gf_X9_108 (pc := 27) rfl dX9_determinant_27 ?_
    refine sm_bipush (pc := 30) dX9_determinant_30 zc_b_11 ?_
    refine sm_iload (pc := 32) (n := 6) dX9_determinant_32 ?_
    refine sm_imulR (pc := 34) dX9_determinant_34 ?_
    refine sm_iload (pc := 35) (n := 5) dX9_determinant_35 ?_
    refine sm_iaddR (pc := 37) dX9_determinant_37 ?_
    refine sm_lalz (pc := 38) (tgt := 50) dX9_determinant_38 dX9_determinant_39 rfl dX9_determinant_40 dX9_determinant_41 (by decide) ?_ ?_
    · skip
      exact hj50.use
    · skip
      refine sm_iincR (pc := 44) (n := 6) dX9_determinant_44 zc_i_1 ?_
      refine sm_goto (pc := 47) (tgt := 20) dX9_determinant_47 (by decide) ?_
      exact hr20.use
noncomputable def lX9_determinantt_8 {d : Nat} (P : zP d) (r8 : zK d) : zK d := (xild 5 (xild 1 (xpI 1 (xbin zsubR (xcmpS tgeR rlGe rhS rlS rhLt (xild 1 (xjoin (bX9_determinantt_301 P) (fun j301 => (xif0S teqR rlEq rhEq rlNe rhNe (xpL 1 j301) (xild 4 (xi2lR (xaldV 0 (xgfR 25 41 (xpI 11 (xild 1 (xpI 1 (xbin zsubR (xbin zmulR (xild 1 (xbin zaddR (xpI 1 (xbin zsubR (xlalN (xbinj zmulj j301))))))))))))))))))) (xild 5 (xist 6 (xloop (fun r20 => (lX9_determinantt_20 P r20 r8)) 100000))))))))
set_option maxRecDepth 100000 in
set_option maxHeartbeats 4000000 in
theorem slX9_determinantt_8 {d : Nat} [zGh] (P : zP d) (r8 : zK d) (hr8 : zSimJ 1 X_X9_determinant 1 P 8 r8) : zSim X_X9_determinant 1 P 8 (lX9_determinantt_8 P r8) := by
  unfold lX9_determinantt_8
  refine sm_iload (pc := 8) (n := 5) dX9_determinant_8 ?_
  refine sm_iload_n (pc := 10) (n := 1) dX9_determinant_10 rfl ?_
  refine sm_iconst (pc := 11) dX9_determinant_11 zc_i_1 ?_
  refine sm_isubR (pc := 12) dX9_determinant_12 ?_
  refine sm_icmpS_ge (pc := 13) (tgt := 274) dX9_determinant_13 (by decide) ?_ ?_
  · skip
    refine sm_iload_n (pc := 274) (n := 1) dX9_determinant_274 rfl ?_
    refine sm_joinJ (pc := 275) (pc' := 301) (j := 1) (fun G0 hG0 => @sbX9_determinantt_301 d G0 P) (fun j301 hj301 => ?_)
    refine sm_ifS_ne (pc := 275) (tgt := 282) dX9_determinant_275 (by decide) ?_ ?_
    · skip
      refine sm_iload (pc := 282) (n := 4) dX9_determinant_282 ?_
      refine sm_i2lR (pc := 284) dX9_determinant_284 ?_
      refine sm_aloadV_n (pc := 285) (n := 0) dX9_determinant_285 rfl ?_
      refine gf_X9_108 (pc := 286) rfl dX9_determinant_286 ?_
      refine sm_bipush (pc := 289) dX9_determinant_289 zc_b_11 ?_
      refine sm_iload_n (pc := 291) (n := 1) dX9_determinant_291 rfl ?_
      refine sm_iconst (pc := 292) dX9_determinant_292 zc_i_1 ?_
      refine sm_isubR (pc := 293) dX9_determinant_293 ?_
      refine sm_imulR (pc := 294) dX9_determinant_294 ?_
      refine sm_iload_n (pc := 295) (n := 1) dX9_determinant_295 rfl ?_
      refine sm_iaddR (pc := 296) dX9_determinant_296 ?_
      refine sm_iconst (pc := 297) dX9_determinant_297 zc_i_1 ?_
      refine sm_isubR (pc := 298) dX9_determinant_298 ?_
      refine sm_laloadN (pc := 299) dX9_determinant_299 ?_
      refine sm_lmul (pc := 300) dX9_determinant_300 ?_
      exact hj301.use
    · skip
      refine sm_lconst (pc := 278) dX9_determinant_278 zc_l_1 ?_
      refine sm_goto (pc := 279) (tgt := 301) dX9_determinant_279 (by decide) ?_
      exact hj301.use
  · skip
    refine sm_iload (pc := 16) (n := 5) dX9_determinant_16 ?_
    refine sm_istore (pc := 18) (n := 6) dX9_determinant_18 ?_
    exact (sm_loopJ (j := 1) (fun G1 hG1 r20 hr20 => @slX9_determinantt_20 d G1 P r20 r8 hr20 (hr8.mv hG1 (by decide))) _).use
noncomputable def b_X9_determinantt {d : Nat} (P : zP d) : zK d := (xpL 1 (xlst 2 (xpI 1 (xist 4 (xpI 0 (xist 5 (xloop (fun r8 => (lX9_determinantt_8 P r8)) 100000)))))))
set_option maxRecDepth 100000 in
set_option maxHeartbeats 4000000 in
theorem s_X9_determinantt {d : Nat} [zGh] (P : zP d) : zSim X_X9_determinant 1 P 0 (b_X9_determinantt P) := by
  unfold b_X9_determinantt
  refine sm_lconst (pc := 0) dX9_determinant_0 zc_l_1 ?_
  refine sm_lstore_n (pc := 1) (n := 2) dX9_determinant_1 rfl ?_
  refine sm_iconst (pc := 2) dX9_determinant_2 zc_i_1 ?_
  refine sm_istore (pc := 3) (n := 4) dX9_determinant_3 ?_
  refine sm_iconst (pc := 5) dX9_determinant_5 zc_i_0 ?_
  refine sm_istore (pc := 6) (n := 5) dX9_determinant_6 ?_
  exact (sm_loopJ (j := 1) (fun G1 hG1 r8 hr8 => @slX9_determinantt_8 d G1 P r8 hr8) _).use
noncomputable def f_X9_determinantt {d : Nat} : List zV → zH d → zP d → Bool := zfn 10 (b_X9_determinantt )
theorem m_X9_determinantt {d : Nat} : zMet (d := d) X_X9_determinant yX9_determinant 1 (f_X9_determinantt ) := zmet_mk (X := X_X9_determinant) (by decide) rfl rfl (fun P => s_X9_determinantt P)

noncomputable def bX9_blockt_229 {d : Nat} (P : zP d) : zK d := (xpI 4294967295 (xiret P))
set_option maxRecDepth 100000 in
set_option maxHeartbeats 4000000 in
theorem sbX9_blockt_229 {d : Nat} [zGh] (P : zP d) : zSim X_X9_block 2 P 229 (bX9_blockt_229 P) := by
  unfold bX9_blockt_229
  refine sm_iconst (pc := 229) dX9_block_229 zc_i_m1 ?_
  exact sm_ireturn (pc := 230) dX9_block_230 rfl
noncomputable def bX9_blockt_120 {d : Nat} (P : zP d) : zK d := (xild 4 (xiret P))
set_option maxRecDepth 100000 in
set_option maxHeartbeats 4000000 in
theorem sbX9_blockt_120 {d : Nat} [zGh] (P : zP d) : zSim X_X9_block 2 P 120 (bX9_blockt_120 P) := by
  unfold bX9_blockt_120
  refine sm_iload (pc := 120) (n := 4) dX9_block_120 ?_
  exact sm_ireturn (pc := 122) dX9_block_122 rfl
noncomputable def bX9_blockt_123 {d : Nat} (P : zP d) : zK d := (xild 3 (xiret P))
set_option maxRecDepth 100000 in
set_option maxHeartbeats 4000000 in
theorem sbX9_blockt_123 {d : Nat} [zGh] (P : zP d) : zSim X_X9_block 2 P 123 (bX9_blockt_123 P) := by
  unfold bX9_blockt_123
  refine sm_iload_n (pc := 123) (n := 3) dX9_block_123 rfl ?_
  exact sm_ireturn (pc := 124) dX9_block_124 rfl
noncomputable def bX9_blockt_125 {d : Nat} (P : zP d) : zK d := (xaldV 0 (xgfR 25 15 (xaldV 0 (xgfR 25 19 (xild 1 (xalQ 0 (xalQ 0 (xiret P))))))))
set_option maxRecDepth 100000 in
set_option maxHeartbeats 4000000 in
theorem sbX9_blockt_125 {d : Nat} [zGh] (P : zP d) : zSim X_X9_block 2 P 125 (bX9_blockt_125 P) := by
  unfold bX9_blockt_125
  refine sm_aloadV_n (pc := 125) (n := 0) dX9_block_125 rfl ?_
  refine gf_X9_41 (pc := 126) rfl dX9_block_126 ?_
  refine sm_aloadV_n (pc := 129) (n := 0) dX9_block_129 rfl ?_
  refine gf_X9_50 (pc := 130) rfl dX9_block_130 ?_
  refine sm_iload_n (pc := 133) (n := 1) dX9_block_133 rfl ?_
  refine sm_ialoadQ (pc := 134) dX9_block_134 ?_
  refine sm_ialoadQ (pc := 135) dX9_block_135 ?_
  exact sm_ireturn (pc := 136) dX9_block_136 rfl
noncomputable def bX9_blockt_137 {d : Nat} (P : zP d) : zK d := (xaldV 0 (xaldV 0 (xgfR 25 15 (xaldV 0 (xgfR 25 19 (xild 1 (xalQ 0 (xalQ 0 (xcV 25 2 0 0 (zstr f_X9_defect) (xiret P))))))))))
set_option maxRecDepth 100000 in
set_option maxHeartbeats 4000000 in
theorem sbX9_blockt_137 {d : Nat} [zGh] (P : zP d) : zSim X_X9_block 2 P 137 (bX9_blockt_137 P) := by
  unfold bX9_blockt_137
  refine sm_aloadV_n (pc := 137) (n := 0) dX9_block_137 rfl ?_
  refine sm_aloadV_n (pc := 138) (n := 0) dX9_block_138 rfl ?_
  refine gf_X9_41 (pc := 139) rfl dX9_block_139 ?_
  refine sm_aloadV_n (pc := 142) (n := 0) dX9_block_142 rfl ?_
  refine gf_X9_50 (pc := 143) rfl dX9_block_143 ?_
  refine sm_iload_n (pc := 146) (n := 1) dX9_block_146 rfl ?_
  refine sm_ialoadQ (pc := 147) dX9_block_147 ?_
  refine sm_ialoadQ (pc := 148) dX9_block_148 ?_
  refine sm_cV (pc := 149) (ci := 9) (n := 2) (mc := 0) (ms := 0) rfl (zMet_str m_X9_defect) (cr_X9_312 (X := X_X9_block) (fr := 2) (frc := 1) (pc := 149) (mc := 0) (ms := 0) rfl (by decide) dX9_block_149) ?_
  exact sm_ireturn (pc := 152) dX9_block_152 rfl
noncomputable def bX9_blockt_153 {d : Nat} (P : zP d) : zK d := (xaldV 0 (xgfR 25 19 (xild 1 (xalQ 0 (xiret P)))))
set_option maxRecDepth 100000 in
set_option maxHeartbeats 4000000 in
theorem sbX9_blockt_153 {d : Nat} [zGh] (P : zP d) : zSim X_X9_block 2 P 153 (bX9_blockt_153 P) := by
  unfold bX9_blockt_153
  refine sm_aloadV_n (pc := 153) (n := 0) dX9_block_153 rfl ?_
  refine gf_X9_50 (pc := 154) rfl dX9_block_154 ?_
  refine sm_iload_n (pc := 157) (n := 1) dX9_block_157 rfl ?_
  refine sm_ialoadQ (pc := 158) dX9_block_158 ?_
  exact sm_ireturn (pc := 159) dX9_block_159 rfl
noncomputable def lX9_blockt_172 {d : Nat} (P : zP d) (r163 : zK d) (r172 : zK d) : zK d := (xild 6 (xild 3 (xcmpS tgeR rlGe rhS rlS rhLt (xincR 5 1 r163) (xaldV 0 (xgfR 25 41 (xpI 11 (xild 5 (xbin zmulR (xild 6 (xbin zaddR (xaldV 0 (xaldV 0 (xgfR 25 42 (xild 5 (xalQ 0 (xaldV 0 (xgfR 25 42 (xild 6 (xalQ 0 (xcV 25 3 0 0 (zstr f_X9_cartanOf) (xi2lR (xlas (xincR 6 1 r172)))))))))))))))))))))))
set_option maxRecDepth 100000 in
set_option maxHeartbeats 4000000 in
theorem slX9_blockt_172 {d : Nat} [zGh] (P : zP d) (r163 : zK d) (r172 : zK d) (hr163 : zSimJ 1 X_X9_block 2 P 163 r163) (hr172 : zSimJ 1 X_X9_block 2 P 172 r172) : zSim X_X9_block 2 P 172 (lX9_blockt_172 P r163 r172) := by
  unfold lX9_blockt_172
  refine sm_iload (pc := 172) (n := 6) dX9_block_172 ?_
  refine sm_iload_n (pc := 174) (n := 3) dX9_block_174 rfl ?_
  refine sm_icmpS_ge (pc := 175) (tgt := 216) dX9_block_175 (by decide) ?_ ?_
  · skip
    refine sm_iincR (pc := 216) (n := 5) dX9_block_216 zc_i_1 ?_
    refine sm_goto (pc := 219) (tgt := 163) dX9_block_219 (by decide) ?_
    exact hr163.use
  · skip
    refine sm_aloadV_n (pc := 178) (n := 0) dX9_block_178 rfl ?_
    refine gf_X9_108 (pc := 179) rfl dX9_block_179 ?_
    refine sm_bipush (pc := 182) dX9_block_182 zc_b_11 ?_
    refine sm_iload (pc := 184) (n := 5) dX9_block_184 ?_
    refine sm_imulR (pc := 186) dX9_block_186 ?_
    refine sm_iload (pc := 187) (n := 6) dX9_block_187 ?_
    refine sm_iaddR (pc := 189) dX9_block_189 ?_
    refine sm_aloadV_n (pc := 190) (n := 0) dX9_block_190 rfl ?_
    refine sm_aloadV_n (pc := 191) (n := 0) dX9_block_191 rfl ?_
    refine gf_X9_112 (pc := 192) rfl dX9_block_192 ?_
    refine sm_iload (pc := 195) (n := 5) dX9_block_195 ?_
    refine sm_ialoadQ (pc := 197) dX9_block_197 ?_
    refine sm_aloadV_n (pc := 198) (n := 0) dX9_block_198 rfl ?_
    refine gf_X9_112 (pc := 199) rfl dX9_block_199 ?_
    refine sm_iload (pc := 202) (n := 6) dX9_block_202 ?_
    refine sm_ialoadQ (pc := 204) dX9_block_204 ?_
    refine sm_cV (pc := 205) (ci := 9) (n := 3) (mc := 0) (ms := 0) rfl (zMet_str m_X9_cartanOf) (cr_X9_306 (X := X_X9_block) (fr := 2) (frc := 1) (pc := 205) (mc := 0) (ms := 0) rfl (by decide) dX9_block_205) ?_
    refine sm_i2lR (pc := 208) dX9_block_208 ?_
    refine sm_lastore (pc := 209) dX9_block_209 ?_
    refine sm_iincR (pc := 210) (n := 6) dX9_block_210 zc_i_1 ?_
    refine sm_goto (pc := 213) (tgt := 172) dX9_block_213 (by decide) ?_
    exact hr172.use
noncomputable def lX9_blockt_163 {d : Nat} (P : zP d) (r163 : zK d) : zK d := (xild 5 (xild 3 (xcmpS tgeR rlGe rhS rlS rhLt (xaldV 0 (xild 3 (xcV 25 2 0 0 (zstr f_X9_determinantt) (xl2i (xiret P))))) (xpI 0 (xist 6 (xloop (fun r172 => (lX9_blockt_172 P r163 r172)) 100000))))))
set_option maxRecDepth 100000 in
set_option maxHeartbeats 4000000 in
theorem slX9_blockt_163 {d : Nat} [zGh] (P : zP d) (r163 : zK d) (hr163 : zSimJ 1 X_X9_block 2 P 163 r163) : zSim X_X9_block 2 P 163 (lX9_blockt_163 P r163) := by
  unfold lX9_blockt_163
  refine sm_iload (pc := 163) (n := 5) dX9_block_163 ?_
  refine sm_iload_n (pc := 165) (n := 3) dX9_block_165 rfl ?_
  refine sm_icmpS_ge (pc := 166) (tgt := 222) dX9_block_166 (by decide) ?_ ?_
  · skip
    refine sm_aloadV_n (pc := 222) (n := 0) dX9_block_222 rfl ?_
    refine sm_iload_n (pc := 223) (n := 3) dX9_block_223 rfl ?_
    refine sm_cV (pc := 224) (ci := 9) (n := 2) (mc := 0) (ms := 0) rfl (zMet_str m_X9_determinantt) (cr_X9_315 (X := X_X9_block) (fr := 2) (frc := 1) (pc := 224) (mc := 0) (ms := 0) rfl (by decide) dX9_block_224) ?_
    refine sm_l2i (pc := 227) dX9_block_227 ?_
    exact sm_ireturn (pc := 228) dX9_block_228 rfl
  · skip
    refine sm_iconst (pc := 169) dX9_block_169 zc_i_0 ?_
    refine sm_istore (pc := 170) (n := 6) dX9_block_170 ?_
    exact (sm_loopJ (j := 1) (fun G1 hG1 r172 hr172 => @slX9_blockt_172 d G1 P r163 r172 (hr163.mv hG1 (by decide)) hr172) _).use
noncomputable def bX9_blockt_160 {d : Nat} (P : zP d) : zK d := (xpI 0 (xist 5 (xloop (fun r163 => (lX9_blockt_163 P r163)) 100000)))
set_option maxRecDepth 100000 in
set_option maxHeartbeats 4000000 in
theorem sbX9_blockt_160 {d : Nat} [zGh] (P : zP d) : zSim X_X9_block 2 P 160 (bX9_blockt_160 P) := by
  unfold bX9_blockt_160
  refine sm_iconst (pc := 160) dX9_block_160 zc_i_0 ?_
  refine sm_istore (pc := 161) (n := 5) dX9_block_161 ?_
  exact (sm_loopJ (j := 1) (fun G1 hG1 r163 hr163 => @slX9_blockt_163 d G1 P r163 hr163) _).use
noncomputable def bX9_blockt_67 {d : Nat} (P : zP d) (r40 : zK d) : zK d := (xcS 1 0 0 (zstr f_X9_one) (xbin zaddR (xist 4 (xincR 5 1 r40))))
set_option maxRecDepth 100000 in
set_option maxHeartbeats 4000000 in
theorem sbX9_blockt_67 {d : Nat} [zGh] (P : zP d) (r40 : zK d) (hr40 : zSimJ 1 X_X9_block 2 P 40 r40) : zSim X_X9_block 2 P 67 (bX9_blockt_67 P r40) := by
  unfold bX9_blockt_67
  refine sm_cS (pc := 67) (n := 1) (mc := 0) (ms := 0) (zMet_str m_X9_one) (cr_X9_187 (X := X_X9_block) (fr := 2) (frc := 1) (pc := 67) (mc := 0) (ms := 0) rfl (by decide) dX9_block_67) ?_
  refine sm_iaddR (pc := 70) dX9_block_70 ?_
  refine sm_istore (pc := 71) (n := 4) dX9_block_71 ?_
  refine sm_iincR (pc := 73) (n := 5) dX9_block_73 zc_i_1 ?_
  refine sm_goto (pc := 76) (tgt := 40) dX9_block_76 (by decide) ?_
  exact hr40.use
noncomputable def lX9_blockt_40 {d : Nat} (P : zP d) (r40 : zK d) : zK d := (xild 5 (xaldV 0 (xgfI 25 2 (xcmpS tgeR rlGe rhS rlS rhLt (xild 2 (xtswR 5 [(bX9_blockt_120 P), (bX9_blockt_123 P), (bX9_blockt_125 P), (bX9_blockt_137 P), (bX9_blockt_153 P), (bX9_blockt_160 P)] (bX9_blockt_229 P))) (xild 4 (xaldV 0 (xgfR 25 17 (xild 5 (xalQ 0 (xild 1 (xjoin (bX9_blockt_67 P r40) (fun j67 => (xcmpS teqR rlEq rhEq rlNe rhNe (xpI 1 j67) (xpI 0 j67))))))))))))))
set_option maxRecDepth 100000 in
set_option maxHeartbeats 4000000 in
theorem slX9_blockt_40 {d : Nat} [zGh] (P : zP d) (r40 : zK d) (hr40 : zSimJ 1 X_X9_block 2 P 40 r40) : zSim X_X9_block 2 P 40 (lX9_blockt_40 P r40) := by
  unfold lX9_blockt_40
  refine sm_iload (pc := 40) (n := 5) dX9_block_40 ?_
  refine sm_aloadV_n (pc := 42) (n := 0) dX9_block_42 rfl ?_
  refine gf_X9_153 (pc := 43) rfl dX9_block_43 ?_
  refine sm_icmpS_ge (pc := 46) (tgt := 79) dX9_block_46 (by decide) ?_ ?_
  · skip
    refine sm_iload_n (pc := 79) (n := 2) dX9_block_79 rfl ?_
    exact sm_tswR (pc := 80) (n := 5) (tdf := 229) [120, 123, 125, 137, 153, 160] rfl (by decide) dX9_block_80 rfl (by decide +kernel) (by decide) (sbX9_blockt_229 P) ⟨sbX9_blockt_120 P, sbX9_blockt_123 P, sbX9_blockt_125 P, sbX9_blockt_137 P, sbX9_blockt_153 P, sbX9_blockt_160 P, trivial⟩
  · skip
    refine sm_iload (pc := 49) (n := 4) dX9_block_49 ?_
    refine sm_aloadV_n (pc := 51) (n := 0) dX9_block_51 rfl ?_
    refine gf_X9_47 (pc := 52) rfl dX9_block_52 ?_
    refine sm_iload (pc := 55) (n := 5) dX9_block_55 ?_
    refine sm_ialoadQ (pc := 57) dX9_block_57 ?_
    refine sm_iload_n (pc := 58) (n := 1) dX9_block_58 rfl ?_
    refine sm_joinJ (pc := 59) (pc' := 67) (j := 1) (fun G0 hG0 => @sbX9_blockt_67 d G0 P r40 (hr40.mv hG0 (by decide))) (fun j67 hj67 => ?_)
    refine sm_icmpS_ne (pc := 59) (tgt := 66) dX9_block_59 (by decide) ?_ ?_
    · skip
      refine sm_iconst (pc := 66) dX9_block_66 zc_i_0 ?_
      exact hj67.use
    · skip
      refine sm_iconst (pc := 62) dX9_block_62 zc_i_1 ?_
      refine sm_goto (pc := 63) (tgt := 67) dX9_block_63 (by decide) ?_
      exact hj67.use
noncomputable def b_X9_blockt {d : Nat} (P : zP d) : zK d := (xild 2 (xpI 4294967295 (xcmpS teqR rlEq rhEq rlNe rhNe (xaldV 0 (xgfI 25 18 (xiret P))) (xild 1 (xi2lR (xpL 0 (xaldV 0 (xgfI 25 18 (xpI 1 (xbin zsubR (xi2lR (xcS 3 0 0 (zstr f_X9_isIna) (xif0S teqR rlEq rhEq rlNe rhNe (xpI 4294967295 (xiret P)) (xaldV 0 (xild 1 (xcV 25 2 0 0 (zstr f_X9_membersOf) (xist 3 (xpI 0 (xist 4 (xpI 0 (xist 5 (xloop (fun r40 => (lX9_blockt_40 P r40)) 100000))))))))))))))))))))))
set_option maxRecDepth 100000 in
set_option maxHeartbeats 4000000 in
theorem s_X9_blockt {d : Nat} [zGh] (P : zP d) : zSim X_X9_block 2 P 0 (b_X9_blockt P) := by
  unfold b_X9_blockt
  refine sm_iload_n (pc := 0) (n := 2) dX9_block_0 rfl ?_
  refine sm_iconst (pc := 1) dX9_block_1 zc_i_m1 ?_
  refine sm_icmpS_ne (pc := 2) (tgt := 10) dX9_block_2 (by decide) ?_ ?_
  · skip
    refine sm_iload_n (pc := 10) (n := 1) dX9_block_10 rfl ?_
    refine sm_i2lR (pc := 11) dX9_block_11 ?_
    refine sm_lconst (pc := 12) dX9_block_12 zc_l_0 ?_
    refine sm_aloadV_n (pc := 13) (n := 0) dX9_block_13 rfl ?_
    refine gf_X9_199 (pc := 14) rfl dX9_block_14 ?_
    refine sm_iconst (pc := 17) dX9_block_17 zc_i_1 ?_
    refine sm_isubR (pc := 18) dX9_block_18 ?_
    refine sm_i2lR (pc := 19) dX9_block_19 ?_
    refine sm_cS (pc := 20) (n := 3) (mc := 0) (ms := 0) (zMet_str m_X9_isIna) (cr_X9_283 (X := X_X9_block) (fr := 2) (frc := 1) (pc := 20) (mc := 0) (ms := 0) rfl (by decide) dX9_block_20) ?_
    refine sm_ifS_ne (pc := 23) (tgt := 28) dX9_block_23 (by decide) ?_ ?_
    · skip
      refine sm_aloadV_n (pc := 28) (n := 0) dX9_block_28 rfl ?_
      refine sm_iload_n (pc := 29) (n := 1) dX9_block_29 rfl ?_
      refine sm_cV (pc := 30) (ci := 9) (n := 2) (mc := 0) (ms := 0) rfl (zMet_str m_X9_membersOf) (cr_X9_309 (X := X_X9_block) (fr := 2) (frc := 1) (pc := 30) (mc := 0) (ms := 0) rfl (by decide) dX9_block_30) ?_
      refine sm_istore_n (pc := 33) (n := 3) dX9_block_33 rfl ?_
      refine sm_iconst (pc := 34) dX9_block_34 zc_i_0 ?_
      refine sm_istore (pc := 35) (n := 4) dX9_block_35 ?_
      refine sm_iconst (pc := 37) dX9_block_37 zc_i_0 ?_
      refine sm_istore (pc := 38) (n := 5) dX9_block_38 ?_
      exact (sm_loopJ (j := 1) (fun G1 hG1 r40 hr40 => @slX9_blockt_40 d G1 P r40 hr40) _).use
    · skip
      refine sm_iconst (pc := 26) dX9_block_26 zc_i_m1 ?_
      exact sm_ireturn (pc := 27) dX9_block_27 rfl
  · skip
    refine sm_aloadV_n (pc := 5) (n := 0) dX9_block_5 rfl ?_
    refine gf_X9_199 (pc := 6) rfl dX9_block_6 ?_
    exact sm_ireturn (pc := 9) dX9_block_9 rfl
noncomputable def f_X9_blockt {d : Nat} : List zV → zH d → zP d → Bool := zfn 7 (b_X9_blockt )
theorem m_X9_blockt {d : Nat} : zMet (d := d) X_X9_block yX9_block 2 (f_X9_blockt ) := zmet_mk (X := X_X9_block) (by decide) rfl rfl (fun P => s_X9_blockt P)
end
section
/-! what an entry of a world holds, as a number; one word told otherwise; a world as it stands taken as a block -/
def zgw (w : va_W) (t j : Nat) : Nat := match w[t]? with
  | some q => zgv q.2 j
  | none => 0
theorem zgw_e {w : va_W} {t j : Nat} {q : Nat × va_E} (h : w[t]? = some q) : zgw w t j = zgv q.2 j := by
  unfold zgw
  rw [h]
theorem zcg_gw {cA : Nat → ClassId} {w : va_W} {t j : Nat} (hj : j < 64) : zcg cA w (zoc t j) = zgw w t j := by
  unfold zcg zgw
  rw [zoc_n, if_neg (by omega), show (549755813889 + (64 * t + j) - 549755813889) / 64 = t by omega, show (549755813889 + (64 * t + j) - 549755813889) % 64 = j by omega]
  cases w[t]? <;> rfl
theorem zcg_eq {cA cB : Nat → ClassId} (h : ∀ i, i < 549755813889 → cB i = cA i) (w : va_W) : zcg cB w = zcg cA w := by
  funext x
  unfold zcg
  by_cases q : x < 549755813889
  · rw [if_pos q, if_pos q, h x q]
  · rw [if_neg q, if_neg q]
theorem zCx_to {G : zGh} {X : zM} {cA cB : Nat → ClassId} {D : va_G} {p : Program} {s : State} {m : MethodId} {args : Array Value} {meth : Method} {c : Code} {A : Nat → Prop} (h : ∀ i, i < 549755813889 → cB i = cA i) (Cx : @zCx G X cA D p s m args meth c A) : @zCx G X cB D p s m args meth c A := by
  have hz : zty cB = zty cA := by
    unfold zty
    rw [h 0 (by decide), h 1 (by decide), h 2 (by decide), h 3 (by decide), h 4 (by decide), h 5 (by decide), h 6 (by decide), h 7 (by decide)]
  exact ⟨Cx.1, Cx.2.1, Cx.2.2.1, Cx.2.2.2.1, Cx.2.2.2.2.1, by rw [hz]; exact Cx.2.2.2.2.2.1, Cx.2.2.2.2.2.2.1, Cx.2.2.2.2.2.2.2.1, ⟨Cx.2.2.2.2.2.2.2.2.1.1, (h 20 (by decide)).trans Cx.2.2.2.2.2.2.2.2.1.2⟩, Cx.2.2.2.2.2.2.2.2.2⟩
theorem zop_v {g : Nat → Nat} {w : Nat} (hw : 21 ≤ w) : zcv (va_rf (zop g w)) = g w := by
  unfold zop
  rw [Nat.max_eq_left hw]
  by_cases q : g w = 0
  · rw [if_pos q, q]
    rfl
  · rw [if_neg q]
    show g w - 1 + 1 = g w
    omega
/-- a reference's word: what it stands for -/
def zrvl (ad : zA) (w : Nat) : Nat := if w < 549755813888 then (match w with
  | 0 => 0
  | k + 1 => match ad.1[k]? with
    | some a => a + 1
    | none => 0) else ad.2 w
theorem zRw_v {ad : zA} {w : Nat} {o : Option Nat} (h : zRw ad w o) : zcv (va_rf o) = zrvl ad w := by
  unfold zrvl
  rcases h with ⟨h1, h2⟩ | ⟨h1, h2⟩
  · rw [if_pos h1]
    rcases h2 with ⟨e, z⟩ | ⟨k, a, e, z1, z2⟩
    · subst e
      subst z
      rfl
    · subst e
      subst z2
      show a + 1 = (match ad.1[k]? with
        | some a => a + 1
        | none => 0)
      rw [z1]
  · rw [if_neg (by omega), h2]
    exact zop_v (by omega)
section GV
variable {Ch : zCh} {d : Nat} {cA : Nat → ClassId} {h : zH d} {w : va_W} {t kd len x j : Nat}
theorem zHp_at (hH : @zHp Ch d cA h w) (ht : t < h.2.1) (hc : zget d h.1 t = (kd, len, x)) : ∃ q : Nat × va_E, w[t]? = some q ∧ @zCell Ch cA (zad cA w) (kd, len, x) q.2 := by
  have hl : w.length = h.2.1 := hH.1
  have e : w[t]? = some w[t] := List.getElem?_eq_getElem (by omega)
  refine ⟨_, e, ?_⟩
  have := hH.2.2 t _ e
  rw [hc] at this
  exact this
/-- a reference in an array -/
theorem zgw_arr (hH : @zHp Ch d cA h w) (ht : t < h.2.1) (hc : zget d h.1 t = (kd, len, x)) (h3 : 3 ≤ kd) (h8 : kd < 8) (hj : j < len) : zgw w t j = zrvl (zad cA w) (zwd 40 x j) := by
  obtain ⟨q, e, hq⟩ := zHp_at hH ht hc
  rw [zgw_e e]
  obtain ⟨qa, qe⟩ := q
  obtain ⟨-, f, rfl, hf⟩ := zCell_r hq h3 h8
  exact zRw_v (hf j hj)
/-- a reference in an object -/
theorem zgw_ref (hH : @zHp Ch d cA h w) (ht : t < h.2.1) (hc : zget d h.1 t = (kd, len, x)) (h16 : 16 ≤ kd) (hj : j < zN (kd - 16)) (hr : zisR (zfty (kd - 16) j) = true) : zgw w t j = zrvl (zad cA w) (zwd 40 x j) := by
  obtain ⟨q, e, hq⟩ := zHp_at hH ht hc
  rw [zgw_e e]
  obtain ⟨qa, qe⟩ := q
  obtain ⟨fs, rfl, hl, hf⟩ := @zCell_obj Ch cA _ kd len x (kd - 16) _ hq (by omega)
  have ej : fs[j]? = some fs[j] := List.getElem?_eq_getElem (by omega)
  have hz := hf j _ ej
  unfold zFl at hz
  rw [hr, cond_true] at hz
  obtain ⟨o, e1, e2⟩ := hz
  show (match fs[j]? with
    | some v => zcv v
    | none => 0) = _
  rw [ej, e1]
  exact zRw_v e2
/-- a number in an object -/
theorem zgw_num (hH : @zHp Ch d cA h w) (ht : t < h.2.1) (hc : zget d h.1 t = (kd, len, x)) (h16 : 16 ≤ kd) (hj : j < zN (kd - 16)) (hr : zisR (zfty (kd - 16) j) = false) : ∃ (q : Nat × va_E) (fs : List Value) (i : Int32), w[t]? = some q ∧ q.2 = .inr (kd - 16, fs) ∧ fs[j]? = some (.int i) ∧ zgw w t j = zi i ∧ zIa (zwd 40 x j) i ∧ (549755813888 < zwd 40 x j → zi i = cA (zwd 40 x j)) := by
  obtain ⟨q, e, hq⟩ := zHp_at hH ht hc
  obtain ⟨qa, qe⟩ := q
  obtain ⟨fs, he, hl, hf⟩ := @zCell_obj Ch cA _ kd len x (kd - 16) _ hq (by omega)
  have he : qe = .inr (kd - 16, fs) := he
  subst he
  have ej : fs[j]? = some fs[j] := List.getElem?_eq_getElem (by omega)
  have hz := hf j _ ej
  unfold zFl at hz
  rw [hr, cond_false] at hz
  obtain ⟨i, e1, e2, e3, -⟩ := hz
  refine ⟨_, fs, i, e, rfl, by rw [ej, e1], ?_, e2.1, e3⟩
  rw [zgw_e e]
  show (match fs[j]? with
    | some v => zcv v
    | none => 0) = _
  rw [ej, e1]
  rfl
/-- one number of an object told otherwise -/
theorem zHp_open {v : Nat} (hH : @zHp Ch d cA h w) (ht : t < h.2.1) (hc : zget d h.1 t = (kd, len, x)) (h16 : 16 ≤ kd) (hj : j < zN (kd - 16)) (hr : zisR (zfty (kd - 16) j) = false) (hv : v < 274877906944) (hi : ∀ i : Int32, zi i = zgw w t j → zIa v i) : @zHp Ch d cA (zset d h.1 t (kd, len, zup 40 x j v), h.2) w := by
  obtain ⟨q, e, hq⟩ := zHp_at hH ht hc
  refine zHp_cell hH e ?_
  have hg : zgw w t j = zgv q.2 j := zgw_e e
  obtain ⟨qa, qe⟩ := q
  obtain ⟨fs, he, hl, hf⟩ := @zCell_obj Ch cA _ kd len x (kd - 16) _ hq (by omega)
  have he : qe = .inr (kd - 16, fs) := he
  subst he
  have key := @zCell_ok Ch cA (zad cA w) (kd - 16) len (zup 40 x j v) fs hl (fun k u hu => by
    by_cases c1 : k = j
    · subst c1
      rw [zwd_up_same _ _ _ _ (Nat.lt_trans hv (by decide))]
      have hz := hf k u hu
      unfold zFl at hz ⊢
      rw [hr, cond_false] at hz ⊢
      obtain ⟨i, e1, e2, e3, e4⟩ := hz
      have hgi : zgw w t k = zi i := by
        rw [hg]
        show (match fs[k]? with
          | some v => zcv v
          | none => 0) = _
        rw [hu, e1]
        rfl
      exact ⟨i, e1, ⟨hi i hgi.symm, fun z => absurd z (by omega)⟩, fun z => absurd z (by omega), fun z => absurd z (by omega)⟩
    · rw [zwd_up_ne _ _ _ _ _ (Nat.lt_trans hv (by decide)) (fun z => c1 z.symm)]
      exact hf k u hu)
  rw [show 16 + (kd - 16) = kd by omega] at key
  exact key
end GV
theorem zall_i {p : Nat → Bool} : ∀ {n : Nat}, (∀ j, j < n → p j = true) → zall n p = true
  | 0, _ => rfl
  | n + 1, h => by
    show cond (p n) (zall n p) false = true
    rw [h n (Nat.lt_succ_self n), cond_true]
    exact zall_i (fun j hj => h j (Nat.lt_succ_of_lt hj))
theorem zmtL_i {d ds : Nat} {φ : List Nat} {T : zT d} {hs : zT ds} : ∀ (l : List Nat) (t : Nat), (∀ (u b : Nat), l[u]? = some b → zmt φ (t + u) (zget d T b) (zget ds hs (t + u)) = true) → zmtL φ T hs l t = true
  | [], _, _ => rfl
  | b :: l, t, h => by
    show cond (zmt φ t (zget d T b) (zget ds hs t)) (zmtL φ T hs l (Nat.succ t)) false = true
    have h0 := h 0 b rfl
    rw [Nat.add_zero] at h0
    rw [h0, cond_true]
    exact zmtL_i l (t + 1) (fun u b' hu => by
      have := h (u + 1) b' (by simpa using hu)
      rw [show t + (u + 1) = t + 1 + u by omega] at this
      exact this)
/-- a block stays one where a word that it doesn't look at is another -/
theorem zsubB_up {d ds : Nat} {φ : List Nat} {h : zH d} {hs : zH ds} {i t kd len x len0 x0 j v : Nat} (hk : zsubB φ h hs = true) (hi : i < 2 ^ d) (hn : h.2.1 ≤ 2 ^ d) (hc : zget d h.1 i = (kd, len, x)) (h16 : 16 ≤ kd) (ht : φ[t]? = some i) (hs0 : zget ds hs.1 t = (kd, len0, x0)) (hj : j < 64) (hw : zwd 40 x0 j = zoc t j) (hv : v < 1099511627776) : zsubB φ (zset d h.1 i (kd, len, zup 40 x j v), h.2) hs = true := by
  obtain ⟨c0, hk⟩ := zcnd_t hk
  obtain ⟨c1, hk⟩ := zcnd_t hk
  obtain ⟨c2, hk⟩ := zcnd_t hk
  obtain ⟨c3, c4⟩ := zcnd_t hk
  obtain ⟨n1, n2⟩ := znd_t c2
  show cond (Nat.ble hs.2.1 (Nat.pow 2 ds)) (cond (Nat.beq (zlen φ) hs.2.1) (cond (znd h.2.1 φ) (cond (zmtL φ (zset d h.1 i (kd, len, zup 40 x j v)) hs.1 φ 0) (Nat.ble (Nat.add h.2.1 hs.2.1) 1000000) false) false) false) false = true
  have key : zmtL φ (zset d h.1 i (kd, len, zup 40 x j v)) hs.1 φ 0 = true := by
    refine zmtL_i φ 0 (fun u b hu => ?_)
    have hm := zmtL_t φ 0 c3 u b hu
    rw [Nat.zero_add] at hm ⊢
    have hb := n1 u b hu
    by_cases c5 : b = i
    · subst c5
      have eu : u = t := n2 u t b hu ht
      subst eu
      rw [zget_set_same d _ _ _ hi, hs0]
      rw [hc, hs0] at hm
      have hm : cond (Nat.beq kd kd) (cond (Nat.beq len len0) (cond (Nat.ble kd 2) (cond (Nat.beq x x0) true (zsubX kd len x x0)) (cond (Nat.ble kd 7) (zall len (zmw φ u true x x0)) (cond (Nat.ble 16 kd) (zall (zN (Nat.sub kd 16)) (fun j => zmw φ u (zisR (zfty (Nat.sub kd 16) j)) x x0 j)) (cond (Nat.beq kd 12) (zm12 φ x x0) false)))) false) false = true := hm
      show cond (Nat.beq kd kd) (cond (Nat.beq len len0) (cond (Nat.ble kd 2) (cond (Nat.beq (zup 40 x j v) x0) true (zsubX kd len (zup 40 x j v) x0)) (cond (Nat.ble kd 7) (zall len (zmw φ u true (zup 40 x j v) x0)) (cond (Nat.ble 16 kd) (zall (zN (Nat.sub kd 16)) (fun j' => zmw φ u (zisR (zfty (Nat.sub kd 16) j')) (zup 40 x j v) x0 j')) (cond (Nat.beq kd 12) (zm12 φ (zup 40 x j v) x0) false)))) false) false = true
      have k2 : Nat.ble kd 2 = false := zble_n (by omega)
      have k7 : Nat.ble kd 7 = false := zble_n (by omega)
      have k16 : Nat.ble 16 kd = true := Nat.ble_eq_true_of_le h16
      rw [k2, k7, k16, cond_false, cond_false, cond_true] at hm ⊢
      obtain ⟨m1, hm⟩ := zcnd_t hm
      obtain ⟨m2, hm⟩ := zcnd_t hm
      rw [m1, m2, cond_true, cond_true]
      refine zall_i (fun j' hj' => ?_)
      have hmj := zall_t hm j' hj'
      have hmj : zmw φ u (zisR (zfty (Nat.sub kd 16) j')) x x0 j' = true := hmj
      show zmw φ u (zisR (zfty (Nat.sub kd 16) j')) (zup 40 x j v) x0 j' = true
      unfold zmw at hmj ⊢
      by_cases c6 : j' = j
      · subst c6
        have e1 : Nat.beq (zwd 40 x0 j') (zoc u j') = true := by rw [hw]; exact Nat.beq_refl _
        rw [e1, cond_true]
        exact Nat.ble_eq_true_of_le (by omega)
      · rw [zwd_up_ne _ _ _ _ _ hv (fun z => c6 z.symm)]
        exact hmj
    · rw [zget_set_ne d _ _ _ _ hi (by omega) (fun z => c5 z.symm)]
      exact hm
  rw [c0, c1, c2, key, c4]
  rfl
noncomputable def zrng (a l : Nat) : List Nat := Nat.rec (motive := fun _ => Nat → List Nat) (fun _ => []) (fun _ r a => a :: r (Nat.succ a)) l a
theorem zrng_at : ∀ (l a p : Nat), p < l → (zrng a l)[p]? = some (a + p)
  | 0, _, p, h => absurd h (Nat.not_lt_zero p)
  | l + 1, a, 0, _ => rfl
  | l + 1, a, p + 1, h => by
    show (zrng (a + 1) l)[p]? = some (a + (p + 1))
    rw [zrng_at l (a + 1) p (by omega)]
    rw [show a + 1 + p = a + (p + 1) by omega]
theorem zrng_len : ∀ (l a : Nat), (zrng a l).length = l
  | 0, _ => rfl
  | l + 1, a => by
    show (zrng (a + 1) l).length + 1 = l + 1
    rw [zrng_len l (a + 1)]
theorem zsubw_at {φ : List Nat} {ws : va_W} {p b : Nat} {q : Nat × va_E} (h : φ[p]? = some b) (hq : ws[b]? = some q) : (zsubw φ ws)[p]? = some q := by
  unfold zsubw
  rw [List.getElem?_map, h]
  simp [hq]
theorem zsubw_len {φ : List Nat} {ws : va_W} : (zsubw φ ws).length = φ.length := List.length_map ..
/-- a range of a world -/
theorem zsubw_rng {ws : va_W} {a l p : Nat} (hp : p < l) (hl : a + l ≤ ws.length) : (zsubw (zrng a l) ws)[p]? = ws[a + p]? := by
  have e : ws[a + p]? = some ws[a + p] := List.getElem?_eq_getElem (by omega)
  rw [e]
  exact zsubw_at (zrng_at l a p hp) e
theorem zsubw_id {ws : va_W} {l : Nat} (hl : ws.length = l) : zsubw (zrng 0 l) ws = ws := by
  refine List.ext_getElem? (fun p => ?_)
  by_cases hp : p < l
  · rw [zsubw_rng hp (by omega), Nat.zero_add]
  · rw [List.getElem?_eq_none (by rw [zsubw_len, zrng_len]; omega), List.getElem?_eq_none (by omega)]
theorem zgw_rng {ws : va_W} {a l t j : Nat} (ht : t < l) (hl : a + l ≤ ws.length) : zgw (zsubw (zrng a l) ws) t j = zgw ws (a + t) j := by
  unfold zgw
  rw [zsubw_rng ht hl]
theorem zgw_app {w1 w2 : va_W} {t j : Nat} (ht : t < w1.length) : zgw (w1 ++ w2) t j = zgw w1 t j := by
  unfold zgw
  rw [List.getElem?_append_left ht]
/-- the world behind a call, taken as a block anew -/
theorem zHp_bk {Ch : zCh} {d ds : Nat} {cA cB : Nat → ClassId} {h : zH d} {hs : zH ds} {ws : va_W} {φ : List Nat} (hlo : ∀ i, i < 549755813889 → cB i = cA i) (hk : zsubB φ h hs = true) (hH : @zHp Ch d cB h ws) : @zHp Ch ds (zcg cA (zsubw φ ws)) hs (zsubw φ ws) := by
  have := (zHp_sub hk hH).1
  rw [zcg_eq hlo] at this
  exact this
end
section
/-! blocks that lie in the heap: found, put together, taken apart, kept -/
def qB (cA : Nat → ClassId) (D : va_G) (A : Nat → Prop) (H : Heap) (own : Nat → Nat) (z : Nat) {d : Nat} (hh : zH d) (w : va_W) : Prop := (∃ Ch : zCh, @zHp Ch d (zcg cA w) hh w) ∧ va_P D zcl w H ∧ va_D A w ∧ ∀ (i : Nat) (x : Nat × va_E), w[i]? = some x → own x.1 = z
def qhd (w : va_W) (a : Nat) : Prop := ∃ e : va_E, w[0]? = some (a, e)
theorem q_mem {w1 w2 : va_W} {k : Nat} {q : Nat × va_E} (hk : (w1 ++ w2)[k]? = some q) : (k < w1.length ∧ w1[k]? = some q) ∨ (w1.length ≤ k ∧ w2[k - w1.length]? = some q) := by
  rcases Nat.lt_or_ge k w1.length with c | c
  · rw [List.getElem?_append_left c] at hk
    exact Or.inl ⟨c, hk⟩
  · rw [List.getElem?_append_right c] at hk
    exact Or.inr ⟨c, hk⟩
section QB
variable {cA cB : Nat → ClassId} {D : va_G} {A : Nat → Prop} {H H1 : Heap} {own own1 : Nat → Nat} {z z0 z1 z2 d d0 d1 d2 ds : Nat} {hh : zH d} {w w0 w1 w2 ws ws' : va_W}
theorem qB_lt (h : qB cA D A H own z hh w) {i : Nat} {x : Nat × va_E} (hx : w[i]? = some x) : x.1 < H.size := (h.2.1 i x hx).lt
theorem qB_kept (hfr : ∀ q, q < H.size → ¬ va_A ws H.size q → H1[q]? = H[q]?) (ho : ∀ (i : Nat) (x : Nat × va_E), ws[i]? = some x → own x.1 ≠ z) (h1 : ∀ q, q < H.size → own1 q = own q) (h : qB cA D A H own z hh w) : qB cA D A H1 own1 z hh w :=
  ⟨h.1, va_P_kept hfr (fun i k x y hx hy e => ho k y hy (by rw [← e]; exact h.2.2.2 i x hx)) h.2.1, h.2.2.1, fun i x hx => (h1 _ (qB_lt h hx)).trans (h.2.2.2 i x hx)⟩
def hE0 : zH 0 := (show zT 0 from (0, 0, 0), (0, (0, 0)))
theorem qB_nil : qB cA D A H own z hE0 [] := ⟨⟨⟨((fun _ _ => 0, 0) : (Nat → Nat → Int32) × Nat)⟩, rfl, Nat.zero_le _, fun i q h => by simp at h⟩, fun k q h => by simp at h, ⟨fun i j p q h => by simp at h, fun k q h => by simp at h⟩, fun i x h => by simp at h⟩
theorem q_Papp (h1 : va_P D zcl w1 H) (h2 : va_P D zcl w2 H) : va_P D zcl (w1 ++ w2) H := fun k q hk => by
  rcases q_mem hk with ⟨-, c⟩ | ⟨-, c⟩
  · exact h1 k q c
  · exact h2 _ q c
theorem q_Dapp (h1 : va_D A w1) (h2 : va_D A w2) (hd : ∀ (i j : Nat) (x y : Nat × va_E), w1[i]? = some x → w2[j]? = some y → x.1 ≠ y.1) : va_D A (w1 ++ w2) := by
  refine ⟨fun i j p q hi hj e => ?_, fun k q hk => ?_⟩
  · rcases q_mem hi with ⟨a1, b1⟩ | ⟨a1, b1⟩
    · rcases q_mem hj with ⟨a2, b2⟩ | ⟨a2, b2⟩
      · exact h1.1 i j p q b1 b2 e
      · exact absurd e (hd _ _ _ _ b1 b2)
    · rcases q_mem hj with ⟨a2, b2⟩ | ⟨a2, b2⟩
      · exact absurd e.symm (hd _ _ _ _ b2 b1)
      · have := h2.1 _ _ p q b1 b2 e
        omega
  · rcases q_mem hk with ⟨-, c⟩ | ⟨-, c⟩
    · exact h1.2 k q c
    · exact h2.2 _ q c
/-- the ghosts of three blocks together: the third's one word that isn't looked at is its first cell's first -/
def qcJ (cA : Nat → ClassId) (w0 w2 : va_W) : Nat → ClassId := fun w => if w = 549755813889 then zcg cA w2 w else zcg cA w0 w
theorem qcJ_lo : ∀ i, i < 549755813889 → qcJ cA w0 w2 i = cA i := fun i hi => by
  unfold qcJ
  rw [if_neg (by omega), zcg_lo hi]
theorem qcJ_oc {t j : Nat} (hj : j < 64) (h : 0 < 64 * t + j) : qcJ cA w0 w2 (zoc t j) = zgw w0 t j := by
  unfold qcJ
  rw [if_neg (by rw [zoc_n]; omega), zcg_gw hj]
noncomputable def zjoin (E : List (Nat × Nat)) (h0 : zH d0) (h1 : zH d1) (h2 : zH d2) (HH : zH d) : Bool := zands [Nat.beq HH.2.1 (Nat.add (Nat.add h0.2.1 h1.2.1) h2.2.1), Nat.ble HH.2.1 (Nat.pow 2 d), zjB (fun w => Nat.ble 549755813890 w) 0 E h0 HH, zjB (fun _ => false) h0.2.1 [] h1 HH, zjB (fun w => Nat.beq w 549755813889) (Nat.add h0.2.1 h1.2.1) [] h2 HH]
theorem q_join {h0 : zH d0} {h1 : zH d1} {h2 : zH d2} {HH : zH d} {E : List (Nat × Nat)} (B0 : qB cA D A H own z0 h0 w0) (B1 : qB cA D A H own z1 h1 w1) (B2 : qB cA D A H own z2 h2 w2) (n01 : z0 ≠ z1) (n02 : z0 ≠ z2) (n12 : z1 ≠ z2) (hj : zjoin E h0 h1 h2 HH = true) (hE : ∀ w v, (w, v) ∈ E → v < 549755813888 ∧ zRf (zad cA (w0 ++ w1 ++ w2)) v (zop (zcg cA w0) w)) : (∃ Ch : zCh, @zHp Ch d (qcJ cA w0 w2) HH (w0 ++ w1 ++ w2)) ∧ va_P D zcl (w0 ++ w1 ++ w2) H ∧ va_D A (w0 ++ w1 ++ w2) := by
  obtain ⟨j1, hj⟩ := zands_c hj
  obtain ⟨j2, hj⟩ := zands_c hj
  obtain ⟨j3, hj⟩ := zands_c hj
  obtain ⟨j4, hj⟩ := zands_c hj
  obtain ⟨j5, -⟩ := zands_c hj
  obtain ⟨⟨C0, H0⟩, P0, D0, O0⟩ := B0
  obtain ⟨⟨C1, H1⟩, P1, D1, O1⟩ := B1
  obtain ⟨⟨C2, H2⟩, P2, D2, O2⟩ := B2
  refine ⟨⟨C0, ?_⟩, q_Papp (q_Papp P0 P1) P2, q_Dapp (q_Dapp D0 D1 (fun i j x y hx hy e => n01 ?_)) D2 (fun i j x y hx hy e => ?_)⟩
  · refine @zHp_join C0 C0 C1 C2 d0 d1 d2 d h0 h1 h2 HH (zcg cA w0) (zcg cA w1) (zcg cA w2) (qcJ cA w0 w2) w0 w1 w2 (fun w => Nat.ble 549755813890 w) (fun _ => false) (fun w => Nat.beq w 549755813889) E H0 H1 H2 (Nat.eq_of_beq_eq_true j1) (Nat.le_of_ble_eq_true j2) (fun i hi => ?_) (fun i hi => ?_) (fun i hi => ?_) (fun w hw => ?_) (fun w hw => ?_) (fun w hw => ?_) (by decide) rfl (by decide) hE j3 j4 j5
    · rw [qcJ_lo i (by omega), zcg_lo (by omega)]
    · rw [qcJ_lo i (by omega), zcg_lo (by omega)]
    · rw [qcJ_lo i (by omega), zcg_lo (by omega)]
    · have hw : 549755813890 ≤ w := Nat.le_of_ble_eq_true hw
      unfold qcJ
      rw [if_neg (by omega)]
    · cases hw
    · have hw : w = 549755813889 := Nat.eq_of_beq_eq_true hw
      unfold qcJ
      rw [if_pos hw]
  · rw [← O0 i x hx, ← O1 j y hy, e]
  · rcases q_mem hx with ⟨-, c⟩ | ⟨-, c⟩
    · exact n02 (by rw [← O0 _ x c, ← O2 j y hy, e])
    · exact n12 (by rw [← O1 _ x c, ← O2 j y hy, e])
/-- a block of the world behind a call -/
theorem q_bk {Ch : zCh} {h : zH d} {hs : zH ds} {φ : List Nat} (hlo : ∀ i, i < 549755813889 → cB i = cA i) (hk : zsubB φ h hs = true) (hH : @zHp Ch d cB h ws) (hP : va_P D zcl ws H) (hD : va_D A ws) (ho : ∀ (p b : Nat) (x : Nat × va_E), φ[p]? = some b → ws[b]? = some x → own x.1 = z) : qB cA D A H own z hs (zsubw φ ws) := by
  have hsub := (zHp_sub hk hH).2
  obtain ⟨-, hk1⟩ := zcnd_t hk
  obtain ⟨-, hk2⟩ := zcnd_t hk1
  obtain ⟨c2, -⟩ := zcnd_t hk2
  obtain ⟨-, n2⟩ := znd_t c2
  refine ⟨⟨Ch, zHp_bk hlo hk hH⟩, fun k q hq => ?_, ⟨fun i j p q hi hj e => ?_, fun k q hq => ?_⟩, fun i x hx => ?_⟩
  · obtain ⟨b, -, g⟩ := hsub k q hq
    exact hP b q g
  · obtain ⟨b1, f1, g1⟩ := hsub i p hi
    obtain ⟨b2, f2, g2⟩ := hsub j q hj
    have eb := hD.1 b1 b2 p q g1 g2 e
    subst eb
    exact n2 i j b1 f1 f2
  · obtain ⟨b, -, g⟩ := hsub k q hq
    exact hD.2 b q g
  · obtain ⟨b, f, g⟩ := hsub i x hx
    exact ho i b x f g
theorem zPre_len {a b : zA} (h : zPre a b) (hl : b.1.length = a.1.length) : b.1 = a.1 := by
  obtain ⟨⟨t, ht⟩, -⟩ := h
  have e : t = [] := by
    have h1 := congrArg List.length ht
    rw [List.length_append] at h1
    exact List.eq_nil_of_length_eq_zero (by omega)
  rw [ht, e, List.append_nil]
/-- a reference's value hangs on the word, the ghosts and the addresses alone -/
theorem zgw_sameA {C1 C2 : zCh} {h1 : zH d} {h2 : zH d} {t kd len x j : Nat} (e1 : @zHp C1 d cB h1 ws) (e2 : @zHp C2 d cB h2 ws') (ha : (zad cB ws').1 = (zad cB ws).1) (t1 : t < h1.2.1) (t2 : t < h2.2.1) (c1 : zget d h1.1 t = (kd, len, x)) (c2 : zget d h2.1 t = (kd, len, x)) (h3 : 3 ≤ kd) (h8 : kd < 8) (hj : j < len) : zgw ws' t j = zgw ws t j := by
  rw [zgw_arr e2 t2 c2 h3 h8 hj, zgw_arr e1 t1 c1 h3 h8 hj]
  show zrvl ((zad cB ws').1, cB) _ = zrvl ((zad cB ws).1, cB) _
  rw [ha]
theorem zgw_sameO {C1 C2 : zCh} {h1 : zH d} {h2 : zH d} {t kd len x j : Nat} (e1 : @zHp C1 d cB h1 ws) (e2 : @zHp C2 d cB h2 ws') (ha : (zad cB ws').1 = (zad cB ws).1) (t1 : t < h1.2.1) (t2 : t < h2.2.1) (c1 : zget d h1.1 t = (kd, len, x)) (c2 : zget d h2.1 t = (kd, len, x)) (h16 : 16 ≤ kd) (hj : j < zN (kd - 16)) (hr : zisR (zfty (kd - 16) j) = true) : zgw ws' t j = zgw ws t j := by
  rw [zgw_ref e2 t2 c2 h16 hj hr, zgw_ref e1 t1 c1 h16 hj hr]
  show zrvl ((zad cB ws').1, cB) _ = zrvl ((zad cB ws).1, cB) _
  rw [ha]
/-- addresses of a world's cells -/
theorem zad_ix {k : Nat} {x : Nat × va_E} (hx : w[k]? = some x) : (zad cA w).1[k]? = some x.1 := by
  show (w.map (fun q => q.1))[k]? = some x.1
  rw [List.getElem?_map, hx]
  rfl
theorem zad_xi {k a : Nat} (h : (zad cA w).1[k]? = some a) : ∃ e, w[k]? = some (a, e) := zad_at h
/-- a word of the core that holds a block's first cell -/
theorem q_ent {t j v k a : Nat} {wt : va_W} (hj : j < 64) (hg : zgw w0 t j = a + 1) (ha : (zad cA wt).1[k]? = some a) (hv : v = k + 1) (hlt : v < 549755813888) : v < 549755813888 ∧ zRf (zad cA wt) v (zop (zcg cA w0) (zoc t j)) := by
  refine ⟨hlt, Or.inr ⟨k, a, hv, ha, ?_⟩⟩
  refine zop_cv (zoc_20 t j) ?_
  rw [zcg_gw hj, hg]
  rfl
theorem q_ent0 {t j : Nat} {wt : va_W} (hj : j < 64) (hg : zgw w0 t j = 0) : (0 : Nat) < 549755813888 ∧ zRf (zad cA wt) 0 (zop (zcg cA w0) (zoc t j)) := by
  refine ⟨by decide, Or.inl ⟨rfl, zop_cv (zoc_20 t j) ?_⟩⟩
  rw [zcg_gw hj, hg]
  rfl
end QB
end
section
/-! a call on a block by itself -/
abbrev qrc (ci : Nat) : va_W → List Value → Prop := fun ws As => ∃ (b : Nat) (As' : List Value) (q0 : Nat) (fs : List Value), As = .ref b :: As' ∧ ws[q0]? = some (b, .inr (ci, fs))
theorem zc3 {c : zC} {kd len : Nat} (h1 : Nat.beq c.1 kd = true) (h2 : Nat.beq c.2.1 len = true) : c = (kd, len, c.2.2) := by
  obtain ⟨a, b, x⟩ := c
  have e1 : a = kd := Nat.eq_of_beq_eq_true h1
  have e2 : b = len := Nat.eq_of_beq_eq_true h2
  subst e1
  subst e2
  rfl
theorem qrc_of {Ch : zCh} {d : Nat} {cA : Nat → ClassId} {h : zH d} {ws : va_W} {ci a : Nat} {av' : List Value} (hHp : @zHp Ch d cA h ws) (hd : qhd ws a) (hg : Nat.beq (zget d h.1 0).1 (16 + ci) = true) : qrc ci ws (.ref a :: av') := by
  obtain ⟨en, hw⟩ := hd
  have hc := hHp.2.2 0 _ hw
  have hc : @zCell Ch cA (zad cA ws) ((zget d h.1 0).1, (zget d h.1 0).2.1, (zget d h.1 0).2.2) en := hc
  obtain ⟨fs, e1, -, -⟩ := @zCell_obj Ch cA _ _ _ _ ci _ hc (Nat.eq_of_beq_eq_true hg)
  exact ⟨a, av', 0, fs, rfl, by rw [hw, e1]⟩
/-- the same addresses: an entry's is the one that was there -/
theorem zad_eq {cA : Nat → ClassId} {ws ws' : va_W} (ha : (zad cA ws').1 = (zad cA ws).1) {b : Nat} {x : Nat × va_E} (hx : ws'[b]? = some x) : ∃ e, ws[b]? = some (x.1, e) := by
  have h1 := zad_ix (cA := cA) hx
  rw [ha] at h1
  exact zad_at h1
theorem q_one [G : zGh] {X Xc : zM} {yc : MethodName} {fr frc pc n ci d z N : Nat} {f : List zV → zH d → zP d → Bool} {cA : Nat → ClassId} {D : va_G} {A : Nat → Prop} {MC MS : Nat} {p : Program} {l : Launch} {e : Env} {s : State} {m : MethodId} {args : Array Value} {below : List Frame} {meth : Method} {c : Code} {Q : State → Prop} {ls : Array Slot} {H : Heap} {locs : List Loc} {cells slots : Nat} {as' : List zV} {st av' : List Value} {hh hin hout hs : zH d} {w : va_W} {P : zP d} {own : Nat → Nat} {ax : Nat}
    (hM : zMet Xc yc frc f) (run : zRun X Xc yc fr frc pc n 0 0 (qrc ci)) (Cx : zCx X cA D p s m args meth c A)
    (B : qB cA D A H own z hh w) (hd : qhd w ax) (hop : ∀ Ch : zCh, @zHp Ch d (zcg cA w) hh w → @zHp Ch d (zcg cA w) hin w) (hr1 : hin.2.2.1 = 0) (hr2 : hin.2.2.2 = 0) (hci : Nat.beq (zget d hin.1 0).1 (16 + ci) = true)
    (hk : f (zR 1 :: as') hin P = true) (hPo : ∀ r h, P r h = true → zsubH h hout = true) (hN : hh.2.1 = N) (hNo : hout.2.1 = N) (hsp : zsubB (zrng 0 N) hout hs = true)
    (hS : va_S A s.heap H locs) (hls : ls.size = X.2.2.1) (has : ∀ ad, zRepL ad as' av') (hcat : (st.map fun v => v.category).sum ≤ 8) (hn : av'.length + 1 = n) (hcb : cells ≤ MC) (hsb : slots ≤ MS)
    (kk : ∀ (w' : va_W) (ad : zA) (r : zV) (h' : zH d) (ov : Option Value) (H1 : Heap) (locs1 : List Loc), ((ov = none ∧ r = zU) ∨ ∃ x, ov = some x ∧ ∀ (_ : zGh), zRep ad r x) → P r h' = true → qB cA D A H1 own z hs w' → qhd w' ax → (∃ Ch : zCh, @zHp Ch d (zcg cA w) hout w') → (zad (zcg cA w) w').1 = (zad (zcg cA w) w).1 → (∀ (d2 z2 : Nat) (h2 : zH d2) (w2 : va_W), z2 ≠ z → qB cA D A H own z2 h2 w2 → qB cA D A H1 own z2 h2 w2) → va_S A s.heap H1 locs1 → W p l e (zRm fr MC MS) s m args below meth c H1 locs1 cells slots Q (F0 m (pc + 3) ls (ov.toList ++ st))) :
    W p l e (zRm fr MC MS) s m args below meth c H locs cells slots Q (F0 m pc ls ((.ref ax :: av').reverse ++ st)) := by
  have B' := B
  obtain ⟨⟨Ch, hH⟩, hP, hD, hO⟩ := B'
  have hlo : ∀ i, i < 549755813889 → zcg cA w i = cA i := fun i hi => zcg_lo hi
  have hHi := hop Ch hH
  have hF := zfree hD hS Cx.2.2.2.2.2.2.1
  obtain ⟨en, hw0⟩ := hd
  refine pt_callF (h := hin) (ws := w) (P := P) (as := zR 1 :: as') (av := .ref ax :: av') hM run (zCx_to hlo Cx) hr1 hr2 hk hHi hP hD hS hls ⟨⟨some ax, rfl, Or.inr ⟨0, ax, rfl, zad_ix hw0, rfl⟩⟩, has _⟩ hcat (by rw [List.length_cons]; exact hn) (qrc_of hHi ⟨en, hw0⟩ hci) (by omega) (by omega) (fun Ch' r h' ws' ov H1 locs1 hov hPk hHp' hpre hP' hD' hS1 hsz hfr => ?_)
  have hHo := zsubH_ok (hPo r h' hPk) hHp'
  have hl : w.length = N := hH.1.trans hN
  have hl' : ws'.length = N := hHo.1.trans hNo
  have ha : (zad (zcg cA w) ws').1 = (zad (zcg cA w) w).1 := zPre_len hpre (by show (ws'.map _).length = (w.map _).length; rw [List.length_map, List.length_map, hl, hl'])
  have hBk : qB cA D A H1 own z hs (zsubw (zrng 0 N) ws') := q_bk hlo hsp hHo hP' (hD'.weaken (fun _ q _ hq => hF _ hq)) (fun p b x hb hx => by
    obtain ⟨e1, g1⟩ := zad_eq ha hx
    exact hO b (x.1, e1) g1)
  rw [zsubw_id hl'] at hBk
  have hd' : qhd ws' ax := by
    have h1 := zad_ix (cA := zcg cA w) hw0
    rw [← ha] at h1
    exact zad_at h1
  have := kk ws' (zad (zcg cA w) ws') r h' ov H1 locs1 hov hPk hBk hd' ⟨Ch', hHo⟩ ha (fun d2 z2 h2 w2 hz B2 => qB_kept hfr (fun i x hx => by rw [hO i x hx]; exact fun q => hz q.symm) (fun _ _ => rfl) B2) hS1
  exact this
end
