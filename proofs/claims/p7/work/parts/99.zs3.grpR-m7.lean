section
/-! group on the reference: by program -/
set_option maxRecDepth 100000 in
theorem ev_grpR_0 : f_X9_groupb [zR 1, zI (qgN 0), zI (qgP 0)] hRw (fun r h => zands [zeqI r (zI (qgA 0)), zsubH h (hRf 0)]) = true := by decide +kernel
set_option maxRecDepth 100000 in
theorem ev_grpR_1 : f_X9_groupb [zR 1, zI (qgN 1), zI (qgP 1)] hRw (fun r h => zands [zeqI r (zI (qgA 1)), zsubH h (hRf 1)]) = true := by decide +kernel
set_option maxRecDepth 100000 in
theorem ev_grpR_2 : f_X9_groupb [zR 1, zI (qgN 2), zI (qgP 2)] hRw (fun r h => zands [zeqI r (zI (qgA 2)), zsubH h (hRf 2)]) = true := by decide +kernel
set_option maxRecDepth 100000 in
theorem ev_grpR_3 : f_X9_groupb [zR 1, zI (qgN 3), zI (qgP 3)] hRw (fun r h => zands [zeqI r (zI (qgA 3)), zsubH h (hRf 3)]) = true := by decide +kernel
set_option maxRecDepth 100000 in
theorem ev_grpR_4 : f_X9_groupb [zR 1, zI (qgN 4), zI (qgP 4)] hRw (fun r h => zands [zeqI r (zI (qgA 4)), zsubH h (hRf 4)]) = true := by decide +kernel
set_option maxRecDepth 100000 in
theorem ev_grpR_5 : f_X9_groupb [zR 1, zI (qgN 5), zI (qgP 5)] hRw (fun r h => zands [zeqI r (zI (qgA 5)), zsubH h (hRf 5)]) = true := by decide +kernel
set_option maxRecDepth 100000 in
theorem ev_grpR_6 : f_X9_groupb [zR 1, zI (qgN 6), zI (qgP 6)] hRw (fun r h => zands [zeqI r (zI (qgA 6)), zsubH h (hRf 6)]) = true := by decide +kernel
set_option maxRecDepth 100000 in
theorem ev_grpR_7 : f_X9_groupb [zR 1, zI (qgN 7), zI (qgP 7)] hRw (fun r h => zands [zeqI r (zI (qgA 7)), zsubH h (hRf 7)]) = true := by decide +kernel
set_option maxRecDepth 100000 in
theorem ev_grpR_8 : f_X9_groupb [zR 1, zI (qgN 8), zI (qgP 8)] hRw (fun r h => zands [zeqI r (zI (qgA 8)), zsubH h (hRf 8)]) = true := by decide +kernel
set_option maxRecDepth 100000 in
theorem ev_grpR_9 : f_X9_groupb [zR 1, zI (qgN 9), zI (qgP 9)] hRw (fun r h => zands [zeqI r (zI (qgA 9)), zsubH h (hRf 9)]) = true := by decide +kernel
set_option maxRecDepth 100000 in
theorem ev_grpR_10 : f_X9_groupb [zR 1, zI (qgN 10), zI (qgP 10)] hRw (fun r h => zands [zeqI r (zI (qgA 10)), zsubH h (hRf 10)]) = true := by decide +kernel
set_option maxRecDepth 100000 in
theorem ev_grpR_11 : f_X9_groupb [zR 1, zI (qgN 11), zI (qgP 11)] hRw (fun r h => zands [zeqI r (zI (qgA 11)), zsubH h (hRf 11)]) = true := by decide +kernel
set_option maxRecDepth 100000 in
theorem ev_grpR_12 : f_X9_groupb [zR 1, zI (qgN 12), zI (qgP 12)] hRw (fun r h => zands [zeqI r (zI (qgA 12)), zsubH h (hRf 12)]) = true := by decide +kernel
set_option maxRecDepth 100000 in
theorem ev_grpR_13 : f_X9_groupb [zR 1, zI (qgN 13), zI (qgP 13)] hRw (fun r h => zands [zeqI r (zI (qgA 13)), zsubH h (hRf 13)]) = true := by decide +kernel
set_option maxRecDepth 100000 in
theorem ev_grpR_14 : f_X9_groupb [zR 1, zI (qgN 14), zI (qgP 14)] hRw (fun r h => zands [zeqI r (zI (qgA 14)), zsubH h (hRf 14)]) = true := by decide +kernel
set_option maxRecDepth 100000 in
theorem ev_grpR_15 : f_X9_groupb [zR 1, zI (qgN 15), zI (qgP 15)] hRw (fun r h => zands [zeqI r (zI (qgA 15)), zsubH h (hRf 15)]) = true := by decide +kernel
set_option maxRecDepth 100000 in
theorem ev_grpR_16 : f_X9_groupb [zR 1, zI (qgN 16), zI (qgP 16)] hRw (fun r h => zands [zeqI r (zI (qgA 16)), zsubH h (hRf 16)]) = true := by decide +kernel
set_option maxRecDepth 100000 in
theorem ev_grpR_17 : f_X9_groupb [zR 1, zI (qgN 17), zI (qgP 17)] hRw (fun r h => zands [zeqI r (zI (qgA 17)), zsubH h (hRf 17)]) = true := by decide +kernel
set_option maxRecDepth 100000 in
theorem ev_grpR_18 : f_X9_groupb [zR 1, zI (qgN 18), zI (qgP 18)] hRw (fun r h => zands [zeqI r (zI (qgA 18)), zsubH h (hRf 18)]) = true := by decide +kernel
set_option maxRecDepth 100000 in
theorem ev_grpR_19 : f_X9_groupb [zR 1, zI (qgN 19), zI (qgP 19)] hRw (fun r h => zands [zeqI r (zI (qgA 19)), zsubH h (hRf 19)]) = true := by decide +kernel
set_option maxRecDepth 100000 in
theorem ev_grpR_20 : f_X9_groupb [zR 1, zI (qgN 20), zI (qgP 20)] hRw (fun r h => zands [zeqI r (zI (qgA 20)), zsubH h (hRf 20)]) = true := by decide +kernel
set_option maxRecDepth 100000 in
theorem ev_grpR_21 : f_X9_groupb [zR 1, zI (qgN 21), zI (qgP 21)] hRw (fun r h => zands [zeqI r (zI (qgA 21)), zsubH h (hRf 21)]) = true := by decide +kernel
set_option maxRecDepth 100000 in
theorem ev_grpR_22 : f_X9_groupb [zR 1, zI (qgN 22), zI (qgP 22)] hRw (fun r h => zands [zeqI r (zI (qgA 22)), zsubH h (hRf 22)]) = true := by decide +kernel
set_option maxRecDepth 100000 in
theorem ev_grpR_23 : f_X9_groupb [zR 1, zI (qgN 23), zI (qgP 23)] hRw (fun r h => zands [zeqI r (zI (qgA 23)), zsubH h (hRf 23)]) = true := by decide +kernel
theorem ev_grpR : ∀ g, g < 24 → f_X9_groupb [zR 1, zI (qgN g), zI (qgP g)] hRw (fun r h => zands [zeqI r (zI (qgA g)), zsubH h (hRf g)]) = true
  | 0, _ => ev_grpR_0
  | 1, _ => ev_grpR_1
  | 2, _ => ev_grpR_2
  | 3, _ => ev_grpR_3
  | 4, _ => ev_grpR_4
  | 5, _ => ev_grpR_5
  | 6, _ => ev_grpR_6
  | 7, _ => ev_grpR_7
  | 8, _ => ev_grpR_8
  | 9, _ => ev_grpR_9
  | 10, _ => ev_grpR_10
  | 11, _ => ev_grpR_11
  | 12, _ => ev_grpR_12
  | 13, _ => ev_grpR_13
  | 14, _ => ev_grpR_14
  | 15, _ => ev_grpR_15
  | 16, _ => ev_grpR_16
  | 17, _ => ev_grpR_17
  | 18, _ => ev_grpR_18
  | 19, _ => ev_grpR_19
  | 20, _ => ev_grpR_20
  | 21, _ => ev_grpR_21
  | 22, _ => ev_grpR_22
  | 23, _ => ev_grpR_23
  | n + 24, h => absurd h (by omega)
end
section
/-! text at all groups: by program -/
noncomputable def fTC {d : Nat} (g : Nat) : List zV → zH d → zP d → Bool := match g with
  | 0 => g_textC_12
  | 1 => g_textC_12
  | 2 => g_textC_12
  | 3 => g_textC_12
  | 4 => g_textC_22
  | 5 => g_textC_23
  | 6 => g_textC_23
  | 7 => g_textC_23
  | 8 => g_textC_32
  | 9 => g_textC_33
  | 10 => g_textC_35
  | 11 => g_textC_35
  | 12 => g_textC_42
  | 13 => g_textC_43
  | 14 => g_textC_45
  | 15 => g_textC_45
  | 16 => g_textC_52
  | 17 => g_textC_53
  | 18 => g_textC_55
  | 19 => g_textC_57
  | 20 => g_textC_62
  | 21 => g_textC_63
  | 22 => g_textC_65
  | _ => g_textC_67
theorem mTC {d : Nat} : ∀ g : Nat, zMet (d := d) X_X8_text yX8_text 115 (fTC g)
  | 0 => m_textC_12
  | 1 => m_textC_12
  | 2 => m_textC_12
  | 3 => m_textC_12
  | 4 => m_textC_22
  | 5 => m_textC_23
  | 6 => m_textC_23
  | 7 => m_textC_23
  | 8 => m_textC_32
  | 9 => m_textC_33
  | 10 => m_textC_35
  | 11 => m_textC_35
  | 12 => m_textC_42
  | 13 => m_textC_43
  | 14 => m_textC_45
  | 15 => m_textC_45
  | 16 => m_textC_52
  | 17 => m_textC_53
  | 18 => m_textC_55
  | 19 => m_textC_57
  | 20 => m_textC_62
  | 21 => m_textC_63
  | 22 => m_textC_65
  | _ + 23 => m_textC_67
set_option maxRecDepth 100000 in
theorem ev_txtC_0 : fTC 0 [zR 1, zI 4294967296] (hCt 0 4294967497) (fun r h => zands [zrI r, zsubH h (hCt 0 0)]) = true := by decide +kernel
set_option maxRecDepth 100000 in
theorem ev_txtC_1 : fTC 1 [zR 1, zI 4294967296] (hCt 1 4294967497) (fun r h => zands [zrI r, zsubH h (hCt 1 0)]) = true := by decide +kernel
set_option maxRecDepth 100000 in
theorem ev_txtC_2 : fTC 2 [zR 1, zI 4294967296] (hCt 2 4294967497) (fun r h => zands [zrI r, zsubH h (hCt 2 0)]) = true := by decide +kernel
set_option maxRecDepth 100000 in
theorem ev_txtC_3 : fTC 3 [zR 1, zI 4294967296] (hCt 3 4294967497) (fun r h => zands [zrI r, zsubH h (hCt 3 0)]) = true := by decide +kernel
set_option maxRecDepth 100000 in
theorem ev_txtC_4 : fTC 4 [zR 1, zI 4294967296] (hCt 4 4294967497) (fun r h => zands [zrI r, zsubH h (hCt 4 0)]) = true := by decide +kernel
set_option maxRecDepth 100000 in
theorem ev_txtC_5 : fTC 5 [zR 1, zI 4294967296] (hCt 5 4294967497) (fun r h => zands [zrI r, zsubH h (hCt 5 0)]) = true := by decide +kernel
set_option maxRecDepth 100000 in
theorem ev_txtC_6 : fTC 6 [zR 1, zI 4294967296] (hCt 6 4294967497) (fun r h => zands [zrI r, zsubH h (hCt 6 0)]) = true := by decide +kernel
set_option maxRecDepth 100000 in
theorem ev_txtC_7 : fTC 7 [zR 1, zI 4294967296] (hCt 7 4294967497) (fun r h => zands [zrI r, zsubH h (hCt 7 0)]) = true := by decide +kernel
set_option maxRecDepth 100000 in
theorem ev_txtC_8 : fTC 8 [zR 1, zI 4294967296] (hCt 8 4294967497) (fun r h => zands [zrI r, zsubH h (hCt 8 0)]) = true := by decide +kernel
set_option maxRecDepth 100000 in
theorem ev_txtC_9 : fTC 9 [zR 1, zI 4294967296] (hCt 9 4294967497) (fun r h => zands [zrI r, zsubH h (hCt 9 0)]) = true := by decide +kernel
set_option maxRecDepth 100000 in
theorem ev_txtC_10 : fTC 10 [zR 1, zI 4294967296] (hCt 10 4294967497) (fun r h => zands [zrI r, zsubH h (hCt 10 0)]) = true := by decide +kernel
set_option maxRecDepth 100000 in
theorem ev_txtC_11 : fTC 11 [zR 1, zI 4294967296] (hCt 11 4294967497) (fun r h => zands [zrI r, zsubH h (hCt 11 0)]) = true := by decide +kernel
set_option maxRecDepth 100000 in
theorem ev_txtC_12 : fTC 12 [zR 1, zI 4294967296] (hCt 12 4294967497) (fun r h => zands [zrI r, zsubH h (hCt 12 0)]) = true := by decide +kernel
set_option maxRecDepth 100000 in
theorem ev_txtC_13 : fTC 13 [zR 1, zI 4294967296] (hCt 13 4294967497) (fun r h => zands [zrI r, zsubH h (hCt 13 0)]) = true := by decide +kernel
set_option maxRecDepth 100000 in
theorem ev_txtC_14 : fTC 14 [zR 1, zI 4294967296] (hCt 14 4294967497) (fun r h => zands [zrI r, zsubH h (hCt 14 0)]) = true := by decide +kernel
set_option maxRecDepth 100000 in
theorem ev_txtC_15 : fTC 15 [zR 1, zI 4294967296] (hCt 15 4294967497) (fun r h => zands [zrI r, zsubH h (hCt 15 0)]) = true := by decide +kernel
set_option maxRecDepth 100000 in
theorem ev_txtC_16 : fTC 16 [zR 1, zI 4294967296] (hCt 16 4294967497) (fun r h => zands [zrI r, zsubH h (hCt 16 0)]) = true := by decide +kernel
set_option maxRecDepth 100000 in
theorem ev_txtC_17 : fTC 17 [zR 1, zI 4294967296] (hCt 17 4294967497) (fun r h => zands [zrI r, zsubH h (hCt 17 0)]) = true := by decide +kernel
set_option maxRecDepth 100000 in
theorem ev_txtC_18 : fTC 18 [zR 1, zI 4294967296] (hCt 18 4294967497) (fun r h => zands [zrI r, zsubH h (hCt 18 0)]) = true := by decide +kernel
set_option maxRecDepth 100000 in
theorem ev_txtC_19 : fTC 19 [zR 1, zI 4294967296] (hCt 19 4294967497) (fun r h => zands [zrI r, zsubH h (hCt 19 0)]) = true := by decide +kernel
set_option maxRecDepth 100000 in
theorem ev_txtC_20 : fTC 20 [zR 1, zI 4294967296] (hCt 20 4294967497) (fun r h => zands [zrI r, zsubH h (hCt 20 0)]) = true := by decide +kernel
set_option maxRecDepth 100000 in
theorem ev_txtC_21 : fTC 21 [zR 1, zI 4294967296] (hCt 21 4294967497) (fun r h => zands [zrI r, zsubH h (hCt 21 0)]) = true := by decide +kernel
set_option maxRecDepth 100000 in
theorem ev_txtC_22 : fTC 22 [zR 1, zI 4294967296] (hCt 22 4294967497) (fun r h => zands [zrI r, zsubH h (hCt 22 0)]) = true := by decide +kernel
set_option maxRecDepth 100000 in
theorem ev_txtC_23 : fTC 23 [zR 1, zI 4294967296] (hCt 23 4294967497) (fun r h => zands [zrI r, zsubH h (hCt 23 0)]) = true := by decide +kernel
theorem ev_txtC : ∀ g, g < 24 → fTC g [zR 1, zI 4294967296] (hCt g 4294967497) (fun r h => zands [zrI r, zsubH h (hCt g 0)]) = true
  | 0, _ => ev_txtC_0
  | 1, _ => ev_txtC_1
  | 2, _ => ev_txtC_2
  | 3, _ => ev_txtC_3
  | 4, _ => ev_txtC_4
  | 5, _ => ev_txtC_5
  | 6, _ => ev_txtC_6
  | 7, _ => ev_txtC_7
  | 8, _ => ev_txtC_8
  | 9, _ => ev_txtC_9
  | 10, _ => ev_txtC_10
  | 11, _ => ev_txtC_11
  | 12, _ => ev_txtC_12
  | 13, _ => ev_txtC_13
  | 14, _ => ev_txtC_14
  | 15, _ => ev_txtC_15
  | 16, _ => ev_txtC_16
  | 17, _ => ev_txtC_17
  | 18, _ => ev_txtC_18
  | 19, _ => ev_txtC_19
  | 20, _ => ev_txtC_20
  | 21, _ => ev_txtC_21
  | 22, _ => ev_txtC_22
  | 23, _ => ev_txtC_23
  | n + 24, h => absurd h (by omega)
noncomputable def fTR {d : Nat} (g : Nat) : List zV → zH d → zP d → Bool := match g with
  | 0 => g_textR_12
  | 1 => g_textR_12
  | 2 => g_textR_12
  | 3 => g_textR_12
  | 4 => g_textR_22
  | 5 => g_textR_23
  | 6 => g_textR_23
  | 7 => g_textR_23
  | 8 => g_textR_32
  | 9 => g_textR_33
  | 10 => g_textR_35
  | 11 => g_textR_35
  | 12 => g_textR_42
  | 13 => g_textR_43
  | 14 => g_textR_45
  | 15 => g_textR_45
  | 16 => g_textR_52
  | 17 => g_textR_53
  | 18 => g_textR_55
  | 19 => g_textR_57
  | 20 => g_textR_62
  | 21 => g_textR_63
  | 22 => g_textR_65
  | _ => g_textR_67
theorem mTR {d : Nat} : ∀ g : Nat, zMet (d := d) X_X9_text yX9_text 413 (fTR g)
  | 0 => m_textR_12
  | 1 => m_textR_12
  | 2 => m_textR_12
  | 3 => m_textR_12
  | 4 => m_textR_22
  | 5 => m_textR_23
  | 6 => m_textR_23
  | 7 => m_textR_23
  | 8 => m_textR_32
  | 9 => m_textR_33
  | 10 => m_textR_35
  | 11 => m_textR_35
  | 12 => m_textR_42
  | 13 => m_textR_43
  | 14 => m_textR_45
  | 15 => m_textR_45
  | 16 => m_textR_52
  | 17 => m_textR_53
  | 18 => m_textR_55
  | 19 => m_textR_57
  | 20 => m_textR_62
  | 21 => m_textR_63
  | 22 => m_textR_65
  | _ + 23 => m_textR_67
set_option maxRecDepth 100000 in
theorem ev_txtR_0 : fTR 0 [zR 1, zI 4294967296] (hRt 0 4294967497) (fun r h => zands [zrI r, zsubH h (hRt 0 0)]) = true := by decide +kernel
set_option maxRecDepth 100000 in
theorem ev_txtR_1 : fTR 1 [zR 1, zI 4294967296] (hRt 1 4294967497) (fun r h => zands [zrI r, zsubH h (hRt 1 0)]) = true := by decide +kernel
set_option maxRecDepth 100000 in
theorem ev_txtR_2 : fTR 2 [zR 1, zI 4294967296] (hRt 2 4294967497) (fun r h => zands [zrI r, zsubH h (hRt 2 0)]) = true := by decide +kernel
set_option maxRecDepth 100000 in
theorem ev_txtR_3 : fTR 3 [zR 1, zI 4294967296] (hRt 3 4294967497) (fun r h => zands [zrI r, zsubH h (hRt 3 0)]) = true := by decide +kernel
set_option maxRecDepth 100000 in
theorem ev_txtR_4 : fTR 4 [zR 1, zI 4294967296] (hRt 4 4294967497) (fun r h => zands [zrI r, zsubH h (hRt 4 0)]) = true := by decide +kernel
set_option maxRecDepth 100000 in
theorem ev_txtR_5 : fTR 5 [zR 1, zI 4294967296] (hRt 5 4294967497) (fun r h => zands [zrI r, zsubH h (hRt 5 0)]) = true := by decide +kernel
set_option maxRecDepth 100000 in
theorem ev_txtR_6 : fTR 6 [zR 1, zI 4294967296] (hRt 6 4294967497) (fun r h => zands [zrI r, zsubH h (hRt 6 0)]) = true := by decide +kernel
set_option maxRecDepth 100000 in
theorem ev_txtR_7 : fTR 7 [zR 1, zI 4294967296] (hRt 7 4294967497) (fun r h => zands [zrI r, zsubH h (hRt 7 0)]) = true := by decide +kernel
set_option maxRecDepth 100000 in
theorem ev_txtR_8 : fTR 8 [zR 1, zI 4294967296] (hRt 8 4294967497) (fun r h => zands [zrI r, zsubH h (hRt 8 0)]) = true := by decide +kernel
set_option maxRecDepth 100000 in
theorem ev_txtR_9 : fTR 9 [zR 1, zI 4294967296] (hRt 9 4294967497) (fun r h => zands [zrI r, zsubH h (hRt 9 0)]) = true := by decide +kernel
set_option maxRecDepth 100000 in
theorem ev_txtR_10 : fTR 10 [zR 1, zI 4294967296] (hRt 10 4294967497) (fun r h => zands [zrI r, zsubH h (hRt 10 0)]) = true := by decide +kernel
set_option maxRecDepth 100000 in
theorem ev_txtR_11 : fTR 11 [zR 1, zI 4294967296] (hRt 11 4294967497) (fun r h => zands [zrI r, zsubH h (hRt 11 0)]) = true := by decide +kernel
set_option maxRecDepth 100000 in
theorem ev_txtR_12 : fTR 12 [zR 1, zI 4294967296] (hRt 12 4294967497) (fun r h => zands [zrI r, zsubH h (hRt 12 0)]) = true := by decide +kernel
set_option maxRecDepth 100000 in
theorem ev_txtR_13 : fTR 13 [zR 1, zI 4294967296] (hRt 13 4294967497) (fun r h => zands [zrI r, zsubH h (hRt 13 0)]) = true := by decide +kernel
set_option maxRecDepth 100000 in
theorem ev_txtR_14 : fTR 14 [zR 1, zI 4294967296] (hRt 14 4294967497) (fun r h => zands [zrI r, zsubH h (hRt 14 0)]) = true := by decide +kernel
set_option maxRecDepth 100000 in
theorem ev_txtR_15 : fTR 15 [zR 1, zI 4294967296] (hRt 15 4294967497) (fun r h => zands [zrI r, zsubH h (hRt 15 0)]) = true := by decide +kernel
set_option maxRecDepth 100000 in
theorem ev_txtR_16 : fTR 16 [zR 1, zI 4294967296] (hRt 16 4294967497) (fun r h => zands [zrI r, zsubH h (hRt 16 0)]) = true := by decide +kernel
set_option maxRecDepth 100000 in
theorem ev_txtR_17 : fTR 17 [zR 1, zI 4294967296] (hRt 17 4294967497) (fun r h => zands [zrI r, zsubH h (hRt 17 0)]) = true := by decide +kernel
set_option maxRecDepth 100000 in
theorem ev_txtR_18 : fTR 18 [zR 1, zI 4294967296] (hRt 18 4294967497) (fun r h => zands [zrI r, zsubH h (hRt 18 0)]) = true := by decide +kernel
set_option maxRecDepth 100000 in
theorem ev_txtR_19 : fTR 19 [zR 1, zI 4294967296] (hRt 19 4294967497) (fun r h => zands [zrI r, zsubH h (hRt 19 0)]) = true := by decide +kernel
set_option maxRecDepth 100000 in
theorem ev_txtR_20 : fTR 20 [zR 1, zI 4294967296] (hRt 20 4294967497) (fun r h => zands [zrI r, zsubH h (hRt 20 0)]) = true := by decide +kernel
set_option maxRecDepth 100000 in
theorem ev_txtR_21 : fTR 21 [zR 1, zI 4294967296] (hRt 21 4294967497) (fun r h => zands [zrI r, zsubH h (hRt 21 0)]) = true := by decide +kernel
set_option maxRecDepth 100000 in
theorem ev_txtR_22 : fTR 22 [zR 1, zI 4294967296] (hRt 22 4294967497) (fun r h => zands [zrI r, zsubH h (hRt 22 0)]) = true := by decide +kernel
set_option maxRecDepth 100000 in
theorem ev_txtR_23 : fTR 23 [zR 1, zI 4294967296] (hRt 23 4294967497) (fun r h => zands [zrI r, zsubH h (hRt 23 0)]) = true := by decide +kernel
theorem ev_txtR : ∀ g, g < 24 → fTR g [zR 1, zI 4294967296] (hRt g 4294967497) (fun r h => zands [zrI r, zsubH h (hRt g 0)]) = true
  | 0, _ => ev_txtR_0
  | 1, _ => ev_txtR_1
  | 2, _ => ev_txtR_2
  | 3, _ => ev_txtR_3
  | 4, _ => ev_txtR_4
  | 5, _ => ev_txtR_5
  | 6, _ => ev_txtR_6
  | 7, _ => ev_txtR_7
  | 8, _ => ev_txtR_8
  | 9, _ => ev_txtR_9
  | 10, _ => ev_txtR_10
  | 11, _ => ev_txtR_11
  | 12, _ => ev_txtR_12
  | 13, _ => ev_txtR_13
  | 14, _ => ev_txtR_14
  | 15, _ => ev_txtR_15
  | 16, _ => ev_txtR_16
  | 17, _ => ev_txtR_17
  | 18, _ => ev_txtR_18
  | 19, _ => ev_txtR_19
  | 20, _ => ev_txtR_20
  | 21, _ => ev_txtR_21
  | 22, _ => ev_txtR_22
  | 23, _ => ev_txtR_23
  | n + 24, h => absurd h (by omega)
end
section
/-! regions of the numbers, by program -/
noncomputable def zlwQ : Nat → List Nat
  | 1 => [0, 1105954078720, 2361183241439117574144]
  | 2 => [0, 1, 2, 3, 4404488962048, 2361183241443412541439, 4294967295]
  | 3 => [0, 1, 2, 3304977334272, 2361183241439117574144]
  | 4 => [0, 1, 2, 3, 4, 5, 6603512217600, 2361183241443412541439, 4294967295]
  | 5 => [0, 1, 2, 3, 4, 5, 6603512217600, 2361183241439117574144]
  | 6 => [0, 1, 2, 3, 4, 5, 6, 7, 8, 9, 10, 11, 13200581984256, 2361183241439117574144]
  | 7 => [0, 1, 2, 3, 4, 5, 6, 7, 8, 9, 10, 11, 12, 13, 14, 15, 17598628495360, 2361183241443412541439, 4294967295]
  | 8 => [0, 1, 2, 3, 4, 5, 6, 7, 8, 9, 10, 11, 12, 13, 14, 15, 16, 17, 18, 19, 20, 21, 22, 23, 24, 25, 28593744773120, 2361183241439117574144]
  | 9 => [4294967302, 6603512217600, 2361183241439117574144]
  | 10 => [0, 1105954078720, 2361183241439117574144]
  | 11 => [4294967298, 2205465706496, 2361183241439117574144]
  | 12 => [4294967299, 3304977334272, 2361183241439117574144]
  | 13 => [4294967300, 4404488962048, 2361183241439117574144]
  | 14 => [4294967301, 5504000589824, 2361183241439117574144]
  | 15 => [4294967302, 6603512217600, 2361183241439117574144]
  | 16 => [4294967303, 7703023845376, 2361183241439117574144]
  | 17 => [4294967304, 8802535473152, 2361183241439117574144]
  | 18 => [4294967305, 9902047100928, 2361183241439117574144]
  | 19 => [4294967306, 11001558728704, 2361183241439117574144]
  | 20 => [4294967307, 12101070356480, 2361183241439117574144]
  | 21 => [4294967308, 13200581984256, 2361183241439117574144]
  | 22 => [4294967309, 14300093612032, 2361183241439117574144]
  | 23 => [4294967310, 15399605239808, 2361183241439117574144]
  | 24 => [4294967311, 16499116867584, 2361183241439117574144]
  | 25 => [4294967312, 17598628495360, 2361183241439117574144]
  | _ => [4294967296]
theorem zlwQ_cv : ∀ i, zcvr (zlwQ i) 0 = true
  | 0 => by decide +kernel
  | 1 => by decide +kernel
  | 2 => by decide +kernel
  | 3 => by decide +kernel
  | 4 => by decide +kernel
  | 5 => by decide +kernel
  | 6 => by decide +kernel
  | 7 => by decide +kernel
  | 8 => by decide +kernel
  | 9 => by decide +kernel
  | 10 => by decide +kernel
  | 11 => by decide +kernel
  | 12 => by decide +kernel
  | 13 => by decide +kernel
  | 14 => by decide +kernel
  | 15 => by decide +kernel
  | 16 => by decide +kernel
  | 17 => by decide +kernel
  | 18 => by decide +kernel
  | 19 => by decide +kernel
  | 20 => by decide +kernel
  | 21 => by decide +kernel
  | 22 => by decide +kernel
  | 23 => by decide +kernel
  | 24 => by decide +kernel
  | 25 => by decide +kernel
  | n + 26 => by show zcvr [4294967296] 0 = true; decide +kernel
theorem zrgs_ap {A B : List Nat} {K : Nat → Bool} (h1 : zrgs A K = true) (h2 : zrgs B K = true) : zrgs (A ++ B) K = true := by
  induction A with
  | nil => exact h2
  | cons a A ih =>
    have h1 : cond (K a) (zrgs A K) false = true := h1
    obtain ⟨g1, g2⟩ := zcnd_t h1
    show cond (K a) (zrgs (A ++ B) K) false = true
    rw [g1, cond_true]
    exact ih g2
end
section
/-! the class at (1, 2): by program -/
set_option maxRecDepth 100000 in
theorem evC_0_fault : zrgs (zlwQ 8) (fun a => f_X8_faulta [zR 1, zI a] (hCf 0) (fun r h => zands [zrI r, zsubH h (hCf 0)])) = true := by decide +kernel
set_option maxRecDepth 100000 in
theorem evC_0_partition : zrgs (zlwQ 1) (fun a => zrgs (zlwQ (zlkQ [(0, 2)] a)) (fun b => f_X8_partitiona [zR 1, zI a, zI b] (hCf 0) (fun r h => zands [zrI r, zsubH h (hCf 0)]))) = true := by decide +kernel
set_option maxRecDepth 100000 in
theorem evC_0_of : zrgs (zlwQ 1) (fun a => zrgs (zlwQ (zlkQ [(0, 6)] a)) (fun b => f_X8_ofa [zR 1, zI a, zI b] (hCf 0) (fun r h => zands [zrI r, zsubH h (hCf 0)]))) = true := by decide +kernel
set_option maxRecDepth 100000 in
theorem evC_0_core : zrgs (zlwQ 1) (fun a => zrgs (zlwQ (zlkQ [(0, 2)] a)) (fun b => f_X8_corea [zR 1, zI a, zI b] (hCf 0) (fun r h => zands [zrI r, zsubH h (hCf 0)]))) = true := by decide +kernel
set_option maxRecDepth 100000 in
theorem evC_0_hook : zrgs (zlwQ 1) (fun a => zrgs (zlwQ (zlkQ [(0, 1)] a)) (fun b => zrgs (zlwQ (zlkQ [(0, 1)] (Nat.add (Nat.mul a 1208925819614629174706176) b))) (fun c => f_X8_hooka [zR 1, zI a, zI b, zI c] (hCf 0) (fun r h => zands [zrI r, zsubH h (hCf 0)])))) = true := by decide +kernel
set_option maxRecDepth 100000 in
theorem evC_0_classOf : zrgs (zlwQ 1) (fun a => zrgs (zlwQ (zlkQ [(0, 4)] a)) (fun b => f_X8_classOfa [zR 1, zI a, zI b] (hCf 0) (fun r h => zands [zrI r, zsubH h (hCf 0)]))) = true := by decide +kernel
set_option maxRecDepth 100000 in
theorem evC_0_character : zrgs (zlwQ 1) (fun a => zrgs (zlwQ (zlkQ [(0, 1)] a)) (fun b => f_X8_charactera [zR 1, zI a, zI b] (hCf 0) (fun r h => zands [zrI r, zsubH h (hCf 0)]))) = true := by decide +kernel
set_option maxRecDepth 100000 in
theorem evC_0_modular : zrgs (zlwQ 1) (fun a => zrgs (zlwQ (zlkQ [(0, 1)] a)) (fun b => f_X8_modulara [zR 1, zI a, zI b] (hCf 0) (fun r h => zands [zrI r, zsubH h (hCf 0)]))) = true := by decide +kernel
set_option maxRecDepth 100000 in
theorem evC_0_projective : zrgs (zlwQ 1) (fun a => zrgs (zlwQ (zlkQ [(0, 1)] a)) (fun b => f_X8_projectivea [zR 1, zI a, zI b] (hCf 0) (fun r h => zands [zrI r, zsubH h (hCf 0)]))) = true := by decide +kernel
set_option maxRecDepth 100000 in
theorem evC_0_decomposition : zrgs (zlwQ 1) (fun a => zrgs (zlwQ (zlkQ [(0, 1)] a)) (fun b => f_X8_decompositiona [zR 1, zI a, zI b] (hCf 0) (fun r h => zands [zrI r, zsubH h (hCf 0)]))) = true := by decide +kernel
set_option maxRecDepth 100000 in
theorem evC_0_cartan : zrgs (zlwQ 1) (fun a => zrgs (zlwQ (zlkQ [(0, 1)] a)) (fun b => f_X8_cartana [zR 1, zI a, zI b] (hCf 0) (fun r h => zands [zrI r, zsubH h (hCf 0)]))) = true := by decide +kernel
set_option maxRecDepth 100000 in
theorem evC_0_tableau : zrgs (zlwQ 1) (fun a => zrgs (zlwQ (zlkQ [(0, 1)] a)) (fun b => zrgs (zlwQ (zlkQ [(0, 1)] (Nat.add (Nat.mul a 1208925819614629174706176) b))) (fun c => zrgs (zlwQ (zlkQ [(0, 1)] (Nat.add (Nat.mul (Nat.add (Nat.mul a 1208925819614629174706176) b) 1208925819614629174706176) c))) (fun d => f_X8_tableaua [zR 1, zI a, zI b, zI c, zI d] (hCf 0) (fun r h => zands [zrI r, zsubH h (hCf 0)]))))) = true := by decide +kernel
set_option maxRecDepth 100000 in
theorem evC_0_gram : zrgs (zlwQ 1) (fun a => zrgs (zlwQ (zlkQ [(0, 1)] a)) (fun b => zrgs (zlwQ (zlkQ [(0, 1)] (Nat.add (Nat.mul a 1208925819614629174706176) b))) (fun c => f_X8_grama [zR 1, zI a, zI b, zI c] (hCf 0) (fun r h => zands [zrI r, zsubH h (hCf 0)])))) = true := by decide +kernel
set_option maxRecDepth 100000 in
theorem evC_0_block : zrgs (zlwQ 1) (fun a => zrgs (zlwQ (zlkQ [(0, 4)] a)) (fun b => f_X8_blocka [zR 1, zI a, zI b] (hCf 0) (fun r h => zands [zrI r, zsubH h (hCf 0)]))) = true := by decide +kernel
set_option maxRecDepth 100000 in
theorem evC_0_value : zrgs (zlwQ 4) (fun a => zrgs (zlwQ (zlkQ [(0, 1), (1, 1), (2, 1), (3, 1), (4, 1), (5, 1)] a)) (fun b => f_X8_valuea [zR 1, zI a, zI b] (hCf 0) (fun r h => zands [zrJ r, zsubH h (hCf 0)]))) = true := by decide +kernel
set_option maxRecDepth 100000 in
theorem evC_0_parts : zrgs (zlwQ 4) (fun a => zrgs (zlwQ (zlkQ [(0, 1), (1, 1), (2, 1), (3, 1), (4, 1), (5, 1)] a)) (fun b => zrgs (zlwQ 0) (fun c => f_X8_partst [zR 1, zI a, zI b, zI c] (hCf 0) (fun r h => zands [zrJ r, zsubH h (hCf 0)])))) = true := by decide +kernel
set_option maxRecDepth 100000 in
theorem evC_0_inner : zrgs (zlwQ 4) (fun a => zrgs (zlwQ (zlkQ [(0, 4), (1, 4), (2, 4), (3, 4), (4, 4), (5, 4)] a)) (fun b => f_X8_innera [zR 1, zI a, zI b] (hCf 0) (fun r h => zands [zrJ r, zsubH h (hCf 0)]))) = true := by decide +kernel
set_option maxRecDepth 100000 in
theorem evC_0_kind : zrgs (zlwQ 4) (fun a => zrgs (zlwQ (zlkQ [(0, 4), (1, 4), (2, 4), (3, 4), (4, 4), (5, 4)] a)) (fun b => f_X8_kinda [zR 1, zI a, zI b] (hCf 0) (fun r h => zands [zrI r, zsubH h (hCf 0)]))) = true := by decide +kernel
set_option maxRecDepth 100000 in
theorem evC_0_cut : zrgs (zlwQ 5) (fun a => zrgs (zlwQ 6) (fun b => zrgs (zlwQ (zlkQ [(0, 5), (1208925819614629174706176, 5), (2417851639229258349412352, 5), (3626777458843887524118528, 5), (4835703278458516698824704, 5), (6044629098073145873530880, 5)] (Nat.add (Nat.mul a 1208925819614629174706176) b))) (fun c => f_X8_cuta [zR 1, zI a, zI b, zI c] (hCf 0) (fun r h => zands [zrI r, zsubH h (hCf 0)])))) = true := by decide +kernel
set_option maxRecDepth 100000 in
theorem evC_0_look : zrgs (zlwQ 6) (fun a => f_X8_lookt [zR 1, zI a] (hCf 0) (fun r h => zands [zrI r, zsubH h (hCf 0)])) = true := by decide +kernel
end
section
/-! the class at (1, 3): by program -/
set_option maxRecDepth 100000 in
theorem evC_1_fault : zrgs (zlwQ 8) (fun a => f_X8_faulta [zR 1, zI a] (hCf 1) (fun r h => zands [zrI r, zsubH h (hCf 1)])) = true := by decide +kernel
set_option maxRecDepth 100000 in
theorem evC_1_partition : zrgs (zlwQ 1) (fun a => zrgs (zlwQ (zlkQ [(0, 2)] a)) (fun b => f_X8_partitiona [zR 1, zI a, zI b] (hCf 1) (fun r h => zands [zrI r, zsubH h (hCf 1)]))) = true := by decide +kernel
set_option maxRecDepth 100000 in
theorem evC_1_of : zrgs (zlwQ 1) (fun a => zrgs (zlwQ (zlkQ [(0, 6)] a)) (fun b => f_X8_ofa [zR 1, zI a, zI b] (hCf 1) (fun r h => zands [zrI r, zsubH h (hCf 1)]))) = true := by decide +kernel
set_option maxRecDepth 100000 in
theorem evC_1_core : zrgs (zlwQ 1) (fun a => zrgs (zlwQ (zlkQ [(0, 2)] a)) (fun b => f_X8_corea [zR 1, zI a, zI b] (hCf 1) (fun r h => zands [zrI r, zsubH h (hCf 1)]))) = true := by decide +kernel
set_option maxRecDepth 100000 in
theorem evC_1_hook : zrgs (zlwQ 1) (fun a => zrgs (zlwQ (zlkQ [(0, 1)] a)) (fun b => zrgs (zlwQ (zlkQ [(0, 1)] (Nat.add (Nat.mul a 1208925819614629174706176) b))) (fun c => f_X8_hooka [zR 1, zI a, zI b, zI c] (hCf 1) (fun r h => zands [zrI r, zsubH h (hCf 1)])))) = true := by decide +kernel
set_option maxRecDepth 100000 in
theorem evC_1_classOf : zrgs (zlwQ 1) (fun a => zrgs (zlwQ (zlkQ [(0, 4)] a)) (fun b => f_X8_classOfa [zR 1, zI a, zI b] (hCf 1) (fun r h => zands [zrI r, zsubH h (hCf 1)]))) = true := by decide +kernel
set_option maxRecDepth 100000 in
theorem evC_1_character : zrgs (zlwQ 1) (fun a => zrgs (zlwQ (zlkQ [(0, 1)] a)) (fun b => f_X8_charactera [zR 1, zI a, zI b] (hCf 1) (fun r h => zands [zrI r, zsubH h (hCf 1)]))) = true := by decide +kernel
set_option maxRecDepth 100000 in
theorem evC_1_modular : zrgs (zlwQ 1) (fun a => zrgs (zlwQ (zlkQ [(0, 1)] a)) (fun b => f_X8_modulara [zR 1, zI a, zI b] (hCf 1) (fun r h => zands [zrI r, zsubH h (hCf 1)]))) = true := by decide +kernel
set_option maxRecDepth 100000 in
theorem evC_1_projective : zrgs (zlwQ 1) (fun a => zrgs (zlwQ (zlkQ [(0, 1)] a)) (fun b => f_X8_projectivea [zR 1, zI a, zI b] (hCf 1) (fun r h => zands [zrI r, zsubH h (hCf 1)]))) = true := by decide +kernel
set_option maxRecDepth 100000 in
theorem evC_1_decomposition : zrgs (zlwQ 1) (fun a => zrgs (zlwQ (zlkQ [(0, 1)] a)) (fun b => f_X8_decompositiona [zR 1, zI a, zI b] (hCf 1) (fun r h => zands [zrI r, zsubH h (hCf 1)]))) = true := by decide +kernel
set_option maxRecDepth 100000 in
theorem evC_1_cartan : zrgs (zlwQ 1) (fun a => zrgs (zlwQ (zlkQ [(0, 1)] a)) (fun b => f_X8_cartana [zR 1, zI a, zI b] (hCf 1) (fun r h => zands [zrI r, zsubH h (hCf 1)]))) = true := by decide +kernel
set_option maxRecDepth 100000 in
theorem evC_1_tableau : zrgs (zlwQ 1) (fun a => zrgs (zlwQ (zlkQ [(0, 1)] a)) (fun b => zrgs (zlwQ (zlkQ [(0, 1)] (Nat.add (Nat.mul a 1208925819614629174706176) b))) (fun c => zrgs (zlwQ (zlkQ [(0, 1)] (Nat.add (Nat.mul (Nat.add (Nat.mul a 1208925819614629174706176) b) 1208925819614629174706176) c))) (fun d => f_X8_tableaua [zR 1, zI a, zI b, zI c, zI d] (hCf 1) (fun r h => zands [zrI r, zsubH h (hCf 1)]))))) = true := by decide +kernel
set_option maxRecDepth 100000 in
theorem evC_1_gram : zrgs (zlwQ 1) (fun a => zrgs (zlwQ (zlkQ [(0, 1)] a)) (fun b => zrgs (zlwQ (zlkQ [(0, 1)] (Nat.add (Nat.mul a 1208925819614629174706176) b))) (fun c => f_X8_grama [zR 1, zI a, zI b, zI c] (hCf 1) (fun r h => zands [zrI r, zsubH h (hCf 1)])))) = true := by decide +kernel
set_option maxRecDepth 100000 in
theorem evC_1_block : zrgs (zlwQ 1) (fun a => zrgs (zlwQ (zlkQ [(0, 4)] a)) (fun b => f_X8_blocka [zR 1, zI a, zI b] (hCf 1) (fun r h => zands [zrI r, zsubH h (hCf 1)]))) = true := by decide +kernel
set_option maxRecDepth 100000 in
theorem evC_1_value : zrgs (zlwQ 4) (fun a => zrgs (zlwQ (zlkQ [(0, 1), (1, 1), (2, 1), (3, 1), (4, 1), (5, 1)] a)) (fun b => f_X8_valuea [zR 1, zI a, zI b] (hCf 1) (fun r h => zands [zrJ r, zsubH h (hCf 1)]))) = true := by decide +kernel
set_option maxRecDepth 100000 in
theorem evC_1_parts : zrgs (zlwQ 4) (fun a => zrgs (zlwQ (zlkQ [(0, 1), (1, 1), (2, 1), (3, 1), (4, 1), (5, 1)] a)) (fun b => zrgs (zlwQ 0) (fun c => f_X8_partst [zR 1, zI a, zI b, zI c] (hCf 1) (fun r h => zands [zrJ r, zsubH h (hCf 1)])))) = true := by decide +kernel
set_option maxRecDepth 100000 in
theorem evC_1_inner : zrgs (zlwQ 4) (fun a => zrgs (zlwQ (zlkQ [(0, 4), (1, 4), (2, 4), (3, 4), (4, 4), (5, 4)] a)) (fun b => f_X8_innera [zR 1, zI a, zI b] (hCf 1) (fun r h => zands [zrJ r, zsubH h (hCf 1)]))) = true := by decide +kernel
set_option maxRecDepth 100000 in
theorem evC_1_kind : zrgs (zlwQ 4) (fun a => zrgs (zlwQ (zlkQ [(0, 4), (1, 4), (2, 4), (3, 4), (4, 4), (5, 4)] a)) (fun b => f_X8_kinda [zR 1, zI a, zI b] (hCf 1) (fun r h => zands [zrI r, zsubH h (hCf 1)]))) = true := by decide +kernel
set_option maxRecDepth 100000 in
theorem evC_1_cut : zrgs (zlwQ 5) (fun a => zrgs (zlwQ 6) (fun b => zrgs (zlwQ (zlkQ [(0, 5), (1208925819614629174706176, 5), (2417851639229258349412352, 5), (3626777458843887524118528, 5), (4835703278458516698824704, 5), (6044629098073145873530880, 5)] (Nat.add (Nat.mul a 1208925819614629174706176) b))) (fun c => f_X8_cuta [zR 1, zI a, zI b, zI c] (hCf 1) (fun r h => zands [zrI r, zsubH h (hCf 1)])))) = true := by decide +kernel
set_option maxRecDepth 100000 in
theorem evC_1_look : zrgs (zlwQ 6) (fun a => f_X8_lookt [zR 1, zI a] (hCf 1) (fun r h => zands [zrI r, zsubH h (hCf 1)])) = true := by decide +kernel
end
section
/-! the class at (1, 5): by program -/
set_option maxRecDepth 100000 in
theorem evC_2_fault : zrgs (zlwQ 8) (fun a => f_X8_faulta [zR 1, zI a] (hCf 2) (fun r h => zands [zrI r, zsubH h (hCf 2)])) = true := by decide +kernel
set_option maxRecDepth 100000 in
theorem evC_2_partition : zrgs (zlwQ 1) (fun a => zrgs (zlwQ (zlkQ [(0, 2)] a)) (fun b => f_X8_partitiona [zR 1, zI a, zI b] (hCf 2) (fun r h => zands [zrI r, zsubH h (hCf 2)]))) = true := by decide +kernel
set_option maxRecDepth 100000 in
theorem evC_2_of : zrgs (zlwQ 1) (fun a => zrgs (zlwQ (zlkQ [(0, 6)] a)) (fun b => f_X8_ofa [zR 1, zI a, zI b] (hCf 2) (fun r h => zands [zrI r, zsubH h (hCf 2)]))) = true := by decide +kernel
set_option maxRecDepth 100000 in
theorem evC_2_core : zrgs (zlwQ 1) (fun a => zrgs (zlwQ (zlkQ [(0, 2)] a)) (fun b => f_X8_corea [zR 1, zI a, zI b] (hCf 2) (fun r h => zands [zrI r, zsubH h (hCf 2)]))) = true := by decide +kernel
set_option maxRecDepth 100000 in
theorem evC_2_hook : zrgs (zlwQ 1) (fun a => zrgs (zlwQ (zlkQ [(0, 1)] a)) (fun b => zrgs (zlwQ (zlkQ [(0, 1)] (Nat.add (Nat.mul a 1208925819614629174706176) b))) (fun c => f_X8_hooka [zR 1, zI a, zI b, zI c] (hCf 2) (fun r h => zands [zrI r, zsubH h (hCf 2)])))) = true := by decide +kernel
set_option maxRecDepth 100000 in
theorem evC_2_classOf : zrgs (zlwQ 1) (fun a => zrgs (zlwQ (zlkQ [(0, 4)] a)) (fun b => f_X8_classOfa [zR 1, zI a, zI b] (hCf 2) (fun r h => zands [zrI r, zsubH h (hCf 2)]))) = true := by decide +kernel
set_option maxRecDepth 100000 in
theorem evC_2_character : zrgs (zlwQ 1) (fun a => zrgs (zlwQ (zlkQ [(0, 1)] a)) (fun b => f_X8_charactera [zR 1, zI a, zI b] (hCf 2) (fun r h => zands [zrI r, zsubH h (hCf 2)]))) = true := by decide +kernel
set_option maxRecDepth 100000 in
theorem evC_2_modular : zrgs (zlwQ 1) (fun a => zrgs (zlwQ (zlkQ [(0, 1)] a)) (fun b => f_X8_modulara [zR 1, zI a, zI b] (hCf 2) (fun r h => zands [zrI r, zsubH h (hCf 2)]))) = true := by decide +kernel
set_option maxRecDepth 100000 in
theorem evC_2_projective : zrgs (zlwQ 1) (fun a => zrgs (zlwQ (zlkQ [(0, 1)] a)) (fun b => f_X8_projectivea [zR 1, zI a, zI b] (hCf 2) (fun r h => zands [zrI r, zsubH h (hCf 2)]))) = true := by decide +kernel
set_option maxRecDepth 100000 in
theorem evC_2_decomposition : zrgs (zlwQ 1) (fun a => zrgs (zlwQ (zlkQ [(0, 1)] a)) (fun b => f_X8_decompositiona [zR 1, zI a, zI b] (hCf 2) (fun r h => zands [zrI r, zsubH h (hCf 2)]))) = true := by decide +kernel
set_option maxRecDepth 100000 in
theorem evC_2_cartan : zrgs (zlwQ 1) (fun a => zrgs (zlwQ (zlkQ [(0, 1)] a)) (fun b => f_X8_cartana [zR 1, zI a, zI b] (hCf 2) (fun r h => zands [zrI r, zsubH h (hCf 2)]))) = true := by decide +kernel
set_option maxRecDepth 100000 in
theorem evC_2_tableau : zrgs (zlwQ 1) (fun a => zrgs (zlwQ (zlkQ [(0, 1)] a)) (fun b => zrgs (zlwQ (zlkQ [(0, 1)] (Nat.add (Nat.mul a 1208925819614629174706176) b))) (fun c => zrgs (zlwQ (zlkQ [(0, 1)] (Nat.add (Nat.mul (Nat.add (Nat.mul a 1208925819614629174706176) b) 1208925819614629174706176) c))) (fun d => f_X8_tableaua [zR 1, zI a, zI b, zI c, zI d] (hCf 2) (fun r h => zands [zrI r, zsubH h (hCf 2)]))))) = true := by decide +kernel
set_option maxRecDepth 100000 in
theorem evC_2_gram : zrgs (zlwQ 1) (fun a => zrgs (zlwQ (zlkQ [(0, 1)] a)) (fun b => zrgs (zlwQ (zlkQ [(0, 1)] (Nat.add (Nat.mul a 1208925819614629174706176) b))) (fun c => f_X8_grama [zR 1, zI a, zI b, zI c] (hCf 2) (fun r h => zands [zrI r, zsubH h (hCf 2)])))) = true := by decide +kernel
set_option maxRecDepth 100000 in
theorem evC_2_block : zrgs (zlwQ 1) (fun a => zrgs (zlwQ (zlkQ [(0, 4)] a)) (fun b => f_X8_blocka [zR 1, zI a, zI b] (hCf 2) (fun r h => zands [zrI r, zsubH h (hCf 2)]))) = true := by decide +kernel
set_option maxRecDepth 100000 in
theorem evC_2_value : zrgs (zlwQ 4) (fun a => zrgs (zlwQ (zlkQ [(0, 1), (1, 1), (2, 1), (3, 1), (4, 1), (5, 1)] a)) (fun b => f_X8_valuea [zR 1, zI a, zI b] (hCf 2) (fun r h => zands [zrJ r, zsubH h (hCf 2)]))) = true := by decide +kernel
set_option maxRecDepth 100000 in
theorem evC_2_parts : zrgs (zlwQ 4) (fun a => zrgs (zlwQ (zlkQ [(0, 1), (1, 1), (2, 1), (3, 1), (4, 1), (5, 1)] a)) (fun b => zrgs (zlwQ 0) (fun c => f_X8_partst [zR 1, zI a, zI b, zI c] (hCf 2) (fun r h => zands [zrJ r, zsubH h (hCf 2)])))) = true := by decide +kernel
set_option maxRecDepth 100000 in
theorem evC_2_inner : zrgs (zlwQ 4) (fun a => zrgs (zlwQ (zlkQ [(0, 4), (1, 4), (2, 4), (3, 4), (4, 4), (5, 4)] a)) (fun b => f_X8_innera [zR 1, zI a, zI b] (hCf 2) (fun r h => zands [zrJ r, zsubH h (hCf 2)]))) = true := by decide +kernel
set_option maxRecDepth 100000 in
theorem evC_2_kind : zrgs (zlwQ 4) (fun a => zrgs (zlwQ (zlkQ [(0, 4), (1, 4), (2, 4), (3, 4), (4, 4), (5, 4)] a)) (fun b => f_X8_kinda [zR 1, zI a, zI b] (hCf 2) (fun r h => zands [zrI r, zsubH h (hCf 2)]))) = true := by decide +kernel
set_option maxRecDepth 100000 in
theorem evC_2_cut : zrgs (zlwQ 5) (fun a => zrgs (zlwQ 6) (fun b => zrgs (zlwQ (zlkQ [(0, 5), (1208925819614629174706176, 5), (2417851639229258349412352, 5), (3626777458843887524118528, 5), (4835703278458516698824704, 5), (6044629098073145873530880, 5)] (Nat.add (Nat.mul a 1208925819614629174706176) b))) (fun c => f_X8_cuta [zR 1, zI a, zI b, zI c] (hCf 2) (fun r h => zands [zrI r, zsubH h (hCf 2)])))) = true := by decide +kernel
set_option maxRecDepth 100000 in
theorem evC_2_look : zrgs (zlwQ 6) (fun a => f_X8_lookt [zR 1, zI a] (hCf 2) (fun r h => zands [zrI r, zsubH h (hCf 2)])) = true := by decide +kernel
end
section
/-! the class at (1, 7): by program -/
set_option maxRecDepth 100000 in
theorem evC_3_fault : zrgs (zlwQ 8) (fun a => f_X8_faulta [zR 1, zI a] (hCf 3) (fun r h => zands [zrI r, zsubH h (hCf 3)])) = true := by decide +kernel
set_option maxRecDepth 100000 in
theorem evC_3_partition : zrgs (zlwQ 1) (fun a => zrgs (zlwQ (zlkQ [(0, 2)] a)) (fun b => f_X8_partitiona [zR 1, zI a, zI b] (hCf 3) (fun r h => zands [zrI r, zsubH h (hCf 3)]))) = true := by decide +kernel
set_option maxRecDepth 100000 in
theorem evC_3_of : zrgs (zlwQ 1) (fun a => zrgs (zlwQ (zlkQ [(0, 6)] a)) (fun b => f_X8_ofa [zR 1, zI a, zI b] (hCf 3) (fun r h => zands [zrI r, zsubH h (hCf 3)]))) = true := by decide +kernel
set_option maxRecDepth 100000 in
theorem evC_3_core : zrgs (zlwQ 1) (fun a => zrgs (zlwQ (zlkQ [(0, 2)] a)) (fun b => f_X8_corea [zR 1, zI a, zI b] (hCf 3) (fun r h => zands [zrI r, zsubH h (hCf 3)]))) = true := by decide +kernel
set_option maxRecDepth 100000 in
theorem evC_3_hook : zrgs (zlwQ 1) (fun a => zrgs (zlwQ (zlkQ [(0, 1)] a)) (fun b => zrgs (zlwQ (zlkQ [(0, 1)] (Nat.add (Nat.mul a 1208925819614629174706176) b))) (fun c => f_X8_hooka [zR 1, zI a, zI b, zI c] (hCf 3) (fun r h => zands [zrI r, zsubH h (hCf 3)])))) = true := by decide +kernel
set_option maxRecDepth 100000 in
theorem evC_3_classOf : zrgs (zlwQ 1) (fun a => zrgs (zlwQ (zlkQ [(0, 4)] a)) (fun b => f_X8_classOfa [zR 1, zI a, zI b] (hCf 3) (fun r h => zands [zrI r, zsubH h (hCf 3)]))) = true := by decide +kernel
set_option maxRecDepth 100000 in
theorem evC_3_character : zrgs (zlwQ 1) (fun a => zrgs (zlwQ (zlkQ [(0, 1)] a)) (fun b => f_X8_charactera [zR 1, zI a, zI b] (hCf 3) (fun r h => zands [zrI r, zsubH h (hCf 3)]))) = true := by decide +kernel
set_option maxRecDepth 100000 in
theorem evC_3_modular : zrgs (zlwQ 1) (fun a => zrgs (zlwQ (zlkQ [(0, 1)] a)) (fun b => f_X8_modulara [zR 1, zI a, zI b] (hCf 3) (fun r h => zands [zrI r, zsubH h (hCf 3)]))) = true := by decide +kernel
set_option maxRecDepth 100000 in
theorem evC_3_projective : zrgs (zlwQ 1) (fun a => zrgs (zlwQ (zlkQ [(0, 1)] a)) (fun b => f_X8_projectivea [zR 1, zI a, zI b] (hCf 3) (fun r h => zands [zrI r, zsubH h (hCf 3)]))) = true := by decide +kernel
set_option maxRecDepth 100000 in
theorem evC_3_decomposition : zrgs (zlwQ 1) (fun a => zrgs (zlwQ (zlkQ [(0, 1)] a)) (fun b => f_X8_decompositiona [zR 1, zI a, zI b] (hCf 3) (fun r h => zands [zrI r, zsubH h (hCf 3)]))) = true := by decide +kernel
set_option maxRecDepth 100000 in
theorem evC_3_cartan : zrgs (zlwQ 1) (fun a => zrgs (zlwQ (zlkQ [(0, 1)] a)) (fun b => f_X8_cartana [zR 1, zI a, zI b] (hCf 3) (fun r h => zands [zrI r, zsubH h (hCf 3)]))) = true := by decide +kernel
set_option maxRecDepth 100000 in
theorem evC_3_tableau : zrgs (zlwQ 1) (fun a => zrgs (zlwQ (zlkQ [(0, 1)] a)) (fun b => zrgs (zlwQ (zlkQ [(0, 1)] (Nat.add (Nat.mul a 1208925819614629174706176) b))) (fun c => zrgs (zlwQ (zlkQ [(0, 1)] (Nat.add (Nat.mul (Nat.add (Nat.mul a 1208925819614629174706176) b) 1208925819614629174706176) c))) (fun d => f_X8_tableaua [zR 1, zI a, zI b, zI c, zI d] (hCf 3) (fun r h => zands [zrI r, zsubH h (hCf 3)]))))) = true := by decide +kernel
set_option maxRecDepth 100000 in
theorem evC_3_gram : zrgs (zlwQ 1) (fun a => zrgs (zlwQ (zlkQ [(0, 1)] a)) (fun b => zrgs (zlwQ (zlkQ [(0, 1)] (Nat.add (Nat.mul a 1208925819614629174706176) b))) (fun c => f_X8_grama [zR 1, zI a, zI b, zI c] (hCf 3) (fun r h => zands [zrI r, zsubH h (hCf 3)])))) = true := by decide +kernel
set_option maxRecDepth 100000 in
theorem evC_3_block : zrgs (zlwQ 1) (fun a => zrgs (zlwQ (zlkQ [(0, 4)] a)) (fun b => f_X8_blocka [zR 1, zI a, zI b] (hCf 3) (fun r h => zands [zrI r, zsubH h (hCf 3)]))) = true := by decide +kernel
set_option maxRecDepth 100000 in
theorem evC_3_value : zrgs (zlwQ 4) (fun a => zrgs (zlwQ (zlkQ [(0, 1), (1, 1), (2, 1), (3, 1), (4, 1), (5, 1)] a)) (fun b => f_X8_valuea [zR 1, zI a, zI b] (hCf 3) (fun r h => zands [zrJ r, zsubH h (hCf 3)]))) = true := by decide +kernel
set_option maxRecDepth 100000 in
theorem evC_3_parts : zrgs (zlwQ 4) (fun a => zrgs (zlwQ (zlkQ [(0, 1), (1, 1), (2, 1), (3, 1), (4, 1), (5, 1)] a)) (fun b => zrgs (zlwQ 0) (fun c => f_X8_partst [zR 1, zI a, zI b, zI c] (hCf 3) (fun r h => zands [zrJ r, zsubH h (hCf 3)])))) = true := by decide +kernel
set_option maxRecDepth 100000 in
theorem evC_3_inner : zrgs (zlwQ 4) (fun a => zrgs (zlwQ (zlkQ [(0, 4), (1, 4), (2, 4), (3, 4), (4, 4), (5, 4)] a)) (fun b => f_X8_innera [zR 1, zI a, zI b] (hCf 3) (fun r h => zands [zrJ r, zsubH h (hCf 3)]))) = true := by decide +kernel
set_option maxRecDepth 100000 in
theorem evC_3_kind : zrgs (zlwQ 4) (fun a => zrgs (zlwQ (zlkQ [(0, 4), (1, 4), (2, 4), (3, 4), (4, 4), (5, 4)] a)) (fun b => f_X8_kinda [zR 1, zI a, zI b] (hCf 3) (fun r h => zands [zrI r, zsubH h (hCf 3)]))) = true := by decide +kernel
set_option maxRecDepth 100000 in
theorem evC_3_cut : zrgs (zlwQ 5) (fun a => zrgs (zlwQ 6) (fun b => zrgs (zlwQ (zlkQ [(0, 5), (1208925819614629174706176, 5), (2417851639229258349412352, 5), (3626777458843887524118528, 5), (4835703278458516698824704, 5), (6044629098073145873530880, 5)] (Nat.add (Nat.mul a 1208925819614629174706176) b))) (fun c => f_X8_cuta [zR 1, zI a, zI b, zI c] (hCf 3) (fun r h => zands [zrI r, zsubH h (hCf 3)])))) = true := by decide +kernel
set_option maxRecDepth 100000 in
theorem evC_3_look : zrgs (zlwQ 6) (fun a => f_X8_lookt [zR 1, zI a] (hCf 3) (fun r h => zands [zrI r, zsubH h (hCf 3)])) = true := by decide +kernel
end
