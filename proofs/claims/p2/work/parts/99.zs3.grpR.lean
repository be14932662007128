/-! group on the reference: by program -/
set_option maxRecDepth 100000 in
theorem ev_grpR_0 : f_X9_groupb [zR 1, zI (qgN 0), zI (qgP 0)] hRw (fun r h => zands [zeqI r (zI (qgA 0)), zsubH h (hRf 0)]) = true := by decide +kernel
set_option maxRecDepth 100000 in
theorem ev_grpR_1 : f_X9_groupb [zR 1, zI (qgN 1), zI (qgP 1)] hRw (fun r h => zands [zeqI r (zI (qgA 1)), zsubH h (hRf 1)]) = true := by decide +kernel
set_option maxRecDepth 100000 in
theorem ev_grpR_2 : f_X9_groupb [zR 1, zI (qgN 2), zI (qgP 2)] hRw (fun r h => zands [zeqI r (zI (qgA 2)), zsubH h (hRf 2)]) = true := by decide +kernel
set_option maxRecDepth 100000 in
theorem ev_grpR_3 : f_X9_groupb [zR 1, zI (qgN 3), zI (qgP 3)] hRw (fun r h => zands [zeqI r (zI (qgA 3)), zsubH h (hRf 3)]) = true := by decide +kernel
set_option maxRecDepth 100000 in
theorem ev_grpR_4 : f_X9_groupb [zR 1, zI (qgN 4), zI (qgP 4)] hRw (fun r h => zands [zeqI r (zI (qgA 4)), zsubH h (hRf 4)]) = true := by decide +kernel
set_option maxRecDepth 100000 in
theorem ev_grpR_5 : f_X9_groupb [zR 1, zI (qgN 5), zI (qgP 5)] hRw (fun r h => zands [zeqI r (zI (qgA 5)), zsubH h (hRf 5)]) = true := by decide +kernel
set_option maxRecDepth 100000 in
theorem ev_grpR_6 : f_X9_groupb [zR 1, zI (qgN 6), zI (qgP 6)] hRw (fun r h => zands [zeqI r (zI (qgA 6)), zsubH h (hRf 6)]) = true := by decide +kernel
set_option maxRecDepth 100000 in
theorem ev_grpR_7 : f_X9_groupb [zR 1, zI (qgN 7), zI (qgP 7)] hRw (fun r h => zands [zeqI r (zI (qgA 7)), zsubH h (hRf 7)]) = true := by decide +kernel
set_option maxRecDepth 100000 in
theorem ev_grpR_8 : f_X9_groupb [zR 1, zI (qgN 8), zI (qgP 8)] hRw (fun r h => zands [zeqI r (zI (qgA 8)), zsubH h (hRf 8)]) = true := by decide +kernel
set_option maxRecDepth 100000 in
theorem ev_grpR_9 : f_X9_groupb [zR 1, zI (qgN 9), zI (qgP 9)] hRw (fun r h => zands [zeqI r (zI (qgA 9)), zsubH h (hRf 9)]) = true := by decide +kernel
set_option maxRecDepth 100000 in
theorem ev_grpR_10 : f_X9_groupb [zR 1, zI (qgN 10), zI (qgP 10)] hRw (fun r h => zands [zeqI r (zI (qgA 10)), zsubH h (hRf 10)]) = true := by decide +kernel
set_option maxRecDepth 100000 in
theorem ev_grpR_11 : f_X9_groupb [zR 1, zI (qgN 11), zI (qgP 11)] hRw (fun r h => zands [zeqI r (zI (qgA 11)), zsubH h (hRf 11)]) = true := by decide +kernel
set_option maxRecDepth 100000 in
theorem ev_grpR_12 : f_X9_groupb [zR 1, zI (qgN 12), zI (qgP 12)] hRw (fun r h => zands [zeqI r (zI (qgA 12)), zsubH h (hRf 12)]) = true := by decide +kernel
set_option maxRecDepth 100000 in
theorem ev_grpR_13 : f_X9_groupb [zR 1, zI (qgN 13), zI (qgP 13)] hRw (fun r h => zands [zeqI r (zI (qgA 13)), zsubH h (hRf 13)]) = true := by decide +kernel
set_option maxRecDepth 100000 in
theorem ev_grpR_14 : f_X9_groupb [zR 1, zI (qgN 14), zI (qgP 14)] hRw (fun r h => zands [zeqI r (zI (qgA 14)), zsubH h (hRf 14)]) = true := by decide +kernel
set_option maxRecDepth 100000 in
theorem ev_grpR_15 : f_X9_groupb [zR 1, zI (qgN 15), zI (qgP 15)] hRw (fun r h => zands [zeqI r (zI (qgA 15)), zsubH h (hRf 15)]) = true := by decide +kernel
set_option maxRecDepth 100000 in
theorem ev_grpR_16 : f_X9_groupb [zR 1, zI (qgN 16), zI (qgP 16)] hRw (fun r h => zands [zeqI r (zI (qgA 16)), zsubH h (hRf 16)]) = true := by decide +kernel
set_option maxRecDepth 100000 in
theorem ev_grpR_17 : f_X9_groupb [zR 1, zI (qgN 17), zI (qgP 17)] hRw (fun r h => zands [zeqI r (zI (qgA 17)), zsubH h (hRf 17)]) = true := by decide +kernel
set_option maxRecDepth 100000 in
theorem ev_grpR_18 : f_X9_groupb [zR 1, zI (qgN 18), zI (qgP 18)] hRw (fun r h => zands [zeqI r (zI (qgA 18)), zsubH h (hRf 18)]) = true := by decide +kernel
set_option maxRecDepth 100000 in
theorem ev_grpR_19 : f_X9_groupb [zR 1, zI (qgN 19), zI (qgP 19)] hRw (fun r h => zands [zeqI r (zI (qgA 19)), zsubH h (hRf 19)]) = true := by decide +kernel
set_option maxRecDepth 100000 in
theorem ev_grpR_20 : f_X9_groupb [zR 1, zI (qgN 20), zI (qgP 20)] hRw (fun r h => zands [zeqI r (zI (qgA 20)), zsubH h (hRf 20)]) = true := by decide +kernel
set_option maxRecDepth 100000 in
theorem ev_grpR_21 : f_X9_groupb [zR 1, zI (qgN 21), zI (qgP 21)] hRw (fun r h => zands [zeqI r (zI (qgA 21)), zsubH h (hRf 21)]) = true := by decide +kernel
set_option maxRecDepth 100000 in
theorem ev_grpR_22 : f_X9_groupb [zR 1, zI (qgN 22), zI (qgP 22)] hRw (fun r h => zands [zeqI r (zI (qgA 22)), zsubH h (hRf 22)]) = true := by decide +kernel
set_option maxRecDepth 100000 in
theorem ev_grpR_23 : f_X9_groupb [zR 1, zI (qgN 23), zI (qgP 23)] hRw (fun r h => zands [zeqI r (zI (qgA 23)), zsubH h (hRf 23)]) = true := by decide +kernel
theorem ev_grpR : ∀ g, g < 24 → f_X9_groupb [zR 1, zI (qgN g), zI (qgP g)] hRw (fun r h => zands [zeqI r (zI (qgA g)), zsubH h (hRf g)]) = true
  | 0, _ => ev_grpR_0
  | 1, _ => ev_grpR_1
  | 2, _ => ev_grpR_2
  | 3, _ => ev_grpR_3
  | 4, _ => ev_grpR_4
  | 5, _ => ev_grpR_5
  | 6, _ => ev_grpR_6
  | 7, _ => ev_grpR_7
  | 8, _ => ev_grpR_8
  | 9, _ => ev_grpR_9
  | 10, _ => ev_grpR_10
  | 11, _ => ev_grpR_11
  | 12, _ => ev_grpR_12
  | 13, _ => ev_grpR_13
  | 14, _ => ev_grpR_14
  | 15, _ => ev_grpR_15
  | 16, _ => ev_grpR_16
  | 17, _ => ev_grpR_17
  | 18, _ => ev_grpR_18
  | 19, _ => ev_grpR_19
  | 20, _ => ev_grpR_20
  | 21, _ => ev_grpR_21
  | 22, _ => ev_grpR_22
  | 23, _ => ev_grpR_23
  | n + 24, h => absurd h (by omega)
