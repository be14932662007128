/-! text at all groups: by program -/
noncomputable def fTC {d : Nat} (n : Nat) : List zV → zH d → zP d → Bool := match n with
  | 1 => g_textC_1
  | 2 => g_textC_2
  | 3 => g_textC_3
  | 4 => g_textC_4
  | 5 => g_textC_5
  | _ => g_textC_6
theorem mTC {d : Nat} (n : Nat) : zMet (d := d) X_X8_text yX8_text 115 (fTC n) := by
  unfold fTC
  split
  · exact m_textC_1
  · exact m_textC_2
  · exact m_textC_3
  · exact m_textC_4
  · exact m_textC_5
  · exact m_textC_6
set_option maxRecDepth 100000 in
theorem ev_txtC_0 : fTC (qgN 0) [zR 1, zI 4294967296] (hCt 0 4294967497) (fun r h => zands [zrI r, zsubH h (hCt 0 0)]) = true := by decide +kernel
set_option maxRecDepth 100000 in
theorem ev_txtC_1 : fTC (qgN 1) [zR 1, zI 4294967296] (hCt 1 4294967497) (fun r h => zands [zrI r, zsubH h (hCt 1 0)]) = true := by decide +kernel
set_option maxRecDepth 100000 in
theorem ev_txtC_2 : fTC (qgN 2) [zR 1, zI 4294967296] (hCt 2 4294967497) (fun r h => zands [zrI r, zsubH h (hCt 2 0)]) = true := by decide +kernel
set_option maxRecDepth 100000 in
theorem ev_txtC_3 : fTC (qgN 3) [zR 1, zI 4294967296] (hCt 3 4294967497) (fun r h => zands [zrI r, zsubH h (hCt 3 0)]) = true := by decide +kernel
set_option maxRecDepth 100000 in
theorem ev_txtC_4 : fTC (qgN 4) [zR 1, zI 4294967296] (hCt 4 4294967497) (fun r h => zands [zrI r, zsubH h (hCt 4 0)]) = true := by decide +kernel
set_option maxRecDepth 100000 in
theorem ev_txtC_5 : fTC (qgN 5) [zR 1, zI 4294967296] (hCt 5 4294967497) (fun r h => zands [zrI r, zsubH h (hCt 5 0)]) = true := by decide +kernel
set_option maxRecDepth 100000 in
theorem ev_txtC_6 : fTC (qgN 6) [zR 1, zI 4294967296] (hCt 6 4294967497) (fun r h => zands [zrI r, zsubH h (hCt 6 0)]) = true := by decide +kernel
set_option maxRecDepth 100000 in
theorem ev_txtC_7 : fTC (qgN 7) [zR 1, zI 4294967296] (hCt 7 4294967497) (fun r h => zands [zrI r, zsubH h (hCt 7 0)]) = true := by decide +kernel
set_option maxRecDepth 100000 in
theorem ev_txtC_8 : fTC (qgN 8) [zR 1, zI 4294967296] (hCt 8 4294967497) (fun r h => zands [zrI r, zsubH h (hCt 8 0)]) = true := by decide +kernel
set_option maxRecDepth 100000 in
theorem ev_txtC_9 : fTC (qgN 9) [zR 1, zI 4294967296] (hCt 9 4294967497) (fun r h => zands [zrI r, zsubH h (hCt 9 0)]) = true := by decide +kernel
set_option maxRecDepth 100000 in
theorem ev_txtC_10 : fTC (qgN 10) [zR 1, zI 4294967296] (hCt 10 4294967497) (fun r h => zands [zrI r, zsubH h (hCt 10 0)]) = true := by decide +kernel
set_option maxRecDepth 100000 in
theorem ev_txtC_11 : fTC (qgN 11) [zR 1, zI 4294967296] (hCt 11 4294967497) (fun r h => zands [zrI r, zsubH h (hCt 11 0)]) = true := by decide +kernel
set_option maxRecDepth 100000 in
theorem ev_txtC_12 : fTC (qgN 12) [zR 1, zI 4294967296] (hCt 12 4294967497) (fun r h => zands [zrI r, zsubH h (hCt 12 0)]) = true := by decide +kernel
set_option maxRecDepth 100000 in
theorem ev_txtC_13 : fTC (qgN 13) [zR 1, zI 4294967296] (hCt 13 4294967497) (fun r h => zands [zrI r, zsubH h (hCt 13 0)]) = true := by decide +kernel
set_option maxRecDepth 100000 in
theorem ev_txtC_14 : fTC (qgN 14) [zR 1, zI 4294967296] (hCt 14 4294967497) (fun r h => zands [zrI r, zsubH h (hCt 14 0)]) = true := by decide +kernel
set_option maxRecDepth 100000 in
theorem ev_txtC_15 : fTC (qgN 15) [zR 1, zI 4294967296] (hCt 15 4294967497) (fun r h => zands [zrI r, zsubH h (hCt 15 0)]) = true := by decide +kernel
set_option maxRecDepth 100000 in
theorem ev_txtC_16 : fTC (qgN 16) [zR 1, zI 4294967296] (hCt 16 4294967497) (fun r h => zands [zrI r, zsubH h (hCt 16 0)]) = true := by decide +kernel
set_option maxRecDepth 100000 in
theorem ev_txtC_17 : fTC (qgN 17) [zR 1, zI 4294967296] (hCt 17 4294967497) (fun r h => zands [zrI r, zsubH h (hCt 17 0)]) = true := by decide +kernel
set_option maxRecDepth 100000 in
theorem ev_txtC_18 : fTC (qgN 18) [zR 1, zI 4294967296] (hCt 18 4294967497) (fun r h => zands [zrI r, zsubH h (hCt 18 0)]) = true := by decide +kernel
set_option maxRecDepth 100000 in
theorem ev_txtC_19 : fTC (qgN 19) [zR 1, zI 4294967296] (hCt 19 4294967497) (fun r h => zands [zrI r, zsubH h (hCt 19 0)]) = true := by decide +kernel
set_option maxRecDepth 100000 in
theorem ev_txtC_20 : fTC (qgN 20) [zR 1, zI 4294967296] (hCt 20 4294967497) (fun r h => zands [zrI r, zsubH h (hCt 20 0)]) = true := by decide +kernel
set_option maxRecDepth 100000 in
theorem ev_txtC_21 : fTC (qgN 21) [zR 1, zI 4294967296] (hCt 21 4294967497) (fun r h => zands [zrI r, zsubH h (hCt 21 0)]) = true := by decide +kernel
set_option maxRecDepth 100000 in
theorem ev_txtC_22 : fTC (qgN 22) [zR 1, zI 4294967296] (hCt 22 4294967497) (fun r h => zands [zrI r, zsubH h (hCt 22 0)]) = true := by decide +kernel
set_option maxRecDepth 100000 in
theorem ev_txtC_23 : fTC (qgN 23) [zR 1, zI 4294967296] (hCt 23 4294967497) (fun r h => zands [zrI r, zsubH h (hCt 23 0)]) = true := by decide +kernel
theorem ev_txtC : ∀ g, g < 24 → fTC (qgN g) [zR 1, zI 4294967296] (hCt g 4294967497) (fun r h => zands [zrI r, zsubH h (hCt g 0)]) = true
  | 0, _ => ev_txtC_0
  | 1, _ => ev_txtC_1
  | 2, _ => ev_txtC_2
  | 3, _ => ev_txtC_3
  | 4, _ => ev_txtC_4
  | 5, _ => ev_txtC_5
  | 6, _ => ev_txtC_6
  | 7, _ => ev_txtC_7
  | 8, _ => ev_txtC_8
  | 9, _ => ev_txtC_9
  | 10, _ => ev_txtC_10
  | 11, _ => ev_txtC_11
  | 12, _ => ev_txtC_12
  | 13, _ => ev_txtC_13
  | 14, _ => ev_txtC_14
  | 15, _ => ev_txtC_15
  | 16, _ => ev_txtC_16
  | 17, _ => ev_txtC_17
  | 18, _ => ev_txtC_18
  | 19, _ => ev_txtC_19
  | 20, _ => ev_txtC_20
  | 21, _ => ev_txtC_21
  | 22, _ => ev_txtC_22
  | 23, _ => ev_txtC_23
  | n + 24, h => absurd h (by omega)
noncomputable def fTR {d : Nat} (n : Nat) : List zV → zH d → zP d → Bool := match n with
  | 1 => g_textR_1
  | 2 => g_textR_2
  | 3 => g_textR_3
  | 4 => g_textR_4
  | 5 => g_textR_5
  | _ => g_textR_6
theorem mTR {d : Nat} (n : Nat) : zMet (d := d) X_X9_text yX9_text 413 (fTR n) := by
  unfold fTR
  split
  · exact m_textR_1
  · exact m_textR_2
  · exact m_textR_3
  · exact m_textR_4
  · exact m_textR_5
  · exact m_textR_6
set_option maxRecDepth 100000 in
theorem ev_txtR_0 : fTR (qgN 0) [zR 1, zI 4294967296] (hRt 0 4294967497) (fun r h => zands [zrI r, zsubH h (hRt 0 0)]) = true := by decide +kernel
set_option maxRecDepth 100000 in
theorem ev_txtR_1 : fTR (qgN 1) [zR 1, zI 4294967296] (hRt 1 4294967497) (fun r h => zands [zrI r, zsubH h (hRt 1 0)]) = true := by decide +kernel
set_option maxRecDepth 100000 in
theorem ev_txtR_2 : fTR (qgN 2) [zR 1, zI 4294967296] (hRt 2 4294967497) (fun r h => zands [zrI r, zsubH h (hRt 2 0)]) = true := by decide +kernel
set_option maxRecDepth 100000 in
theorem ev_txtR_3 : fTR (qgN 3) [zR 1, zI 4294967296] (hRt 3 4294967497) (fun r h => zands [zrI r, zsubH h (hRt 3 0)]) = true := by decide +kernel
set_option maxRecDepth 100000 in
theorem ev_txtR_4 : fTR (qgN 4) [zR 1, zI 4294967296] (hRt 4 4294967497) (fun r h => zands [zrI r, zsubH h (hRt 4 0)]) = true := by decide +kernel
set_option maxRecDepth 100000 in
theorem ev_txtR_5 : fTR (qgN 5) [zR 1, zI 4294967296] (hRt 5 4294967497) (fun r h => zands [zrI r, zsubH h (hRt 5 0)]) = true := by decide +kernel
set_option maxRecDepth 100000 in
theorem ev_txtR_6 : fTR (qgN 6) [zR 1, zI 4294967296] (hRt 6 4294967497) (fun r h => zands [zrI r, zsubH h (hRt 6 0)]) = true := by decide +kernel
set_option maxRecDepth 100000 in
theorem ev_txtR_7 : fTR (qgN 7) [zR 1, zI 4294967296] (hRt 7 4294967497) (fun r h => zands [zrI r, zsubH h (hRt 7 0)]) = true := by decide +kernel
set_option maxRecDepth 100000 in
theorem ev_txtR_8 : fTR (qgN 8) [zR 1, zI 4294967296] (hRt 8 4294967497) (fun r h => zands [zrI r, zsubH h (hRt 8 0)]) = true := by decide +kernel
set_option maxRecDepth 100000 in
theorem ev_txtR_9 : fTR (qgN 9) [zR 1, zI 4294967296] (hRt 9 4294967497) (fun r h => zands [zrI r, zsubH h (hRt 9 0)]) = true := by decide +kernel
set_option maxRecDepth 100000 in
theorem ev_txtR_10 : fTR (qgN 10) [zR 1, zI 4294967296] (hRt 10 4294967497) (fun r h => zands [zrI r, zsubH h (hRt 10 0)]) = true := by decide +kernel
set_option maxRecDepth 100000 in
theorem ev_txtR_11 : fTR (qgN 11) [zR 1, zI 4294967296] (hRt 11 4294967497) (fun r h => zands [zrI r, zsubH h (hRt 11 0)]) = true := by decide +kernel
set_option maxRecDepth 100000 in
theorem ev_txtR_12 : fTR (qgN 12) [zR 1, zI 4294967296] (hRt 12 4294967497) (fun r h => zands [zrI r, zsubH h (hRt 12 0)]) = true := by decide +kernel
set_option maxRecDepth 100000 in
theorem ev_txtR_13 : fTR (qgN 13) [zR 1, zI 4294967296] (hRt 13 4294967497) (fun r h => zands [zrI r, zsubH h (hRt 13 0)]) = true := by decide +kernel
set_option maxRecDepth 100000 in
theorem ev_txtR_14 : fTR (qgN 14) [zR 1, zI 4294967296] (hRt 14 4294967497) (fun r h => zands [zrI r, zsubH h (hRt 14 0)]) = true := by decide +kernel
set_option maxRecDepth 100000 in
theorem ev_txtR_15 : fTR (qgN 15) [zR 1, zI 4294967296] (hRt 15 4294967497) (fun r h => zands [zrI r, zsubH h (hRt 15 0)]) = true := by decide +kernel
set_option maxRecDepth 100000 in
theorem ev_txtR_16 : fTR (qgN 16) [zR 1, zI 4294967296] (hRt 16 4294967497) (fun r h => zands [zrI r, zsubH h (hRt 16 0)]) = true := by decide +kernel
set_option maxRecDepth 100000 in
theorem ev_txtR_17 : fTR (qgN 17) [zR 1, zI 4294967296] (hRt 17 4294967497) (fun r h => zands [zrI r, zsubH h (hRt 17 0)]) = true := by decide +kernel
set_option maxRecDepth 100000 in
theorem ev_txtR_18 : fTR (qgN 18) [zR 1, zI 4294967296] (hRt 18 4294967497) (fun r h => zands [zrI r, zsubH h (hRt 18 0)]) = true := by decide +kernel
set_option maxRecDepth 100000 in
theorem ev_txtR_19 : fTR (qgN 19) [zR 1, zI 4294967296] (hRt 19 4294967497) (fun r h => zands [zrI r, zsubH h (hRt 19 0)]) = true := by decide +kernel
set_option maxRecDepth 100000 in
theorem ev_txtR_20 : fTR (qgN 20) [zR 1, zI 4294967296] (hRt 20 4294967497) (fun r h => zands [zrI r, zsubH h (hRt 20 0)]) = true := by decide +kernel
set_option maxRecDepth 100000 in
theorem ev_txtR_21 : fTR (qgN 21) [zR 1, zI 4294967296] (hRt 21 4294967497) (fun r h => zands [zrI r, zsubH h (hRt 21 0)]) = true := by decide +kernel
set_option maxRecDepth 100000 in
theorem ev_txtR_22 : fTR (qgN 22) [zR 1, zI 4294967296] (hRt 22 4294967497) (fun r h => zands [zrI r, zsubH h (hRt 22 0)]) = true := by decide +kernel
set_option maxRecDepth 100000 in
theorem ev_txtR_23 : fTR (qgN 23) [zR 1, zI 4294967296] (hRt 23 4294967497) (fun r h => zands [zrI r, zsubH h (hRt 23 0)]) = true := by decide +kernel
theorem ev_txtR : ∀ g, g < 24 → fTR (qgN g) [zR 1, zI 4294967296] (hRt g 4294967497) (fun r h => zands [zrI r, zsubH h (hRt g 0)]) = true
  | 0, _ => ev_txtR_0
  | 1, _ => ev_txtR_1
  | 2, _ => ev_txtR_2
  | 3, _ => ev_txtR_3
  | 4, _ => ev_txtR_4
  | 5, _ => ev_txtR_5
  | 6, _ => ev_txtR_6
  | 7, _ => ev_txtR_7
  | 8, _ => ev_txtR_8
  | 9, _ => ev_txtR_9
  | 10, _ => ev_txtR_10
  | 11, _ => ev_txtR_11
  | 12, _ => ev_txtR_12
  | 13, _ => ev_txtR_13
  | 14, _ => ev_txtR_14
  | 15, _ => ev_txtR_15
  | 16, _ => ev_txtR_16
  | 17, _ => ev_txtR_17
  | 18, _ => ev_txtR_18
  | 19, _ => ev_txtR_19
  | 20, _ => ev_txtR_20
  | 21, _ => ev_txtR_21
  | 22, _ => ev_txtR_22
  | 23, _ => ev_txtR_23
  | n + 24, h => absurd h (by omega)
