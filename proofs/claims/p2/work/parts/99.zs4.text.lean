/-! text at all groups: by program -/
noncomputable def fTC {d : Nat} (g : Nat) : List zV → zH d → zP d → Bool := match g with
  | 0 => g_textC_12
  | 1 => g_textC_12
  | 2 => g_textC_12
  | 3 => g_textC_12
  | 4 => g_textC_22
  | 5 => g_textC_23
  | 6 => g_textC_23
  | 7 => g_textC_23
  | 8 => g_textC_32
  | 9 => g_textC_33
  | 10 => g_textC_35
  | 11 => g_textC_35
  | 12 => g_textC_42
  | 13 => g_textC_43
  | 14 => g_textC_45
  | 15 => g_textC_45
  | 16 => g_textC_52
  | 17 => g_textC_53
  | 18 => g_textC_55
  | 19 => g_textC_57
  | 20 => g_textC_62
  | 21 => g_textC_63
  | 22 => g_textC_65
  | _ => g_textC_67
theorem mTC {d : Nat} : ∀ g : Nat, zMet (d := d) X_X8_text yX8_text 115 (fTC g)
  | 0 => m_textC_12
  | 1 => m_textC_12
  | 2 => m_textC_12
  | 3 => m_textC_12
  | 4 => m_textC_22
  | 5 => m_textC_23
  | 6 => m_textC_23
  | 7 => m_textC_23
  | 8 => m_textC_32
  | 9 => m_textC_33
  | 10 => m_textC_35
  | 11 => m_textC_35
  | 12 => m_textC_42
  | 13 => m_textC_43
  | 14 => m_textC_45
  | 15 => m_textC_45
  | 16 => m_textC_52
  | 17 => m_textC_53
  | 18 => m_textC_55
  | 19 => m_textC_57
  | 20 => m_textC_62
  | 21 => m_textC_63
  | 22 => m_textC_65
  | _ + 23 => m_textC_67
set_option maxRecDepth 100000 in
theorem ev_txtC_0 : fTC 0 [zR 1, zI 4294967296] (hCt 0 4294967497) (fun r h => zands [zrI r, zsubH h (hCt 0 0)]) = true := by decide +kernel
set_option maxRecDepth 100000 in
theorem ev_txtC_1 : fTC 1 [zR 1, zI 4294967296] (hCt 1 4294967497) (fun r h => zands [zrI r, zsubH h (hCt 1 0)]) = true := by decide +kernel
set_option maxRecDepth 100000 in
theorem ev_txtC_2 : fTC 2 [zR 1, zI 4294967296] (hCt 2 4294967497) (fun r h => zands [zrI r, zsubH h (hCt 2 0)]) = true := by decide +kernel
set_option maxRecDepth 100000 in
theorem ev_txtC_3 : fTC 3 [zR 1, zI 4294967296] (hCt 3 4294967497) (fun r h => zands [zrI r, zsubH h (hCt 3 0)]) = true := by decide +kernel
set_option maxRecDepth 100000 in
theorem ev_txtC_4 : fTC 4 [zR 1, zI 4294967296] (hCt 4 4294967497) (fun r h => zands [zrI r, zsubH h (hCt 4 0)]) = true := by decide +kernel
set_option maxRecDepth 100000 in
theorem ev_txtC_5 : fTC 5 [zR 1, zI 4294967296] (hCt 5 4294967497) (fun r h => zands [zrI r, zsubH h (hCt 5 0)]) = true := by decide +kernel
set_option maxRecDepth 100000 in
theorem ev_txtC_6 : fTC 6 [zR 1, zI 4294967296] (hCt 6 4294967497) (fun r h => zands [zrI r, zsubH h (hCt 6 0)]) = true := by decide +kernel
set_option maxRecDepth 100000 in
theorem ev_txtC_7 : fTC 7 [zR 1, zI 4294967296] (hCt 7 4294967497) (fun r h => zands [zrI r, zsubH h (hCt 7 0)]) = true := by decide +kernel
set_option maxRecDepth 100000 in
theorem ev_txtC_8 : fTC 8 [zR 1, zI 4294967296] (hCt 8 4294967497) (fun r h => zands [zrI r, zsubH h (hCt 8 0)]) = true := by decide +kernel
set_option maxRecDepth 100000 in
theorem ev_txtC_9 : fTC 9 [zR 1, zI 4294967296] (hCt 9 4294967497) (fun r h => zands [zrI r, zsubH h (hCt 9 0)]) = true := by decide +kernel
set_option maxRecDepth 100000 in
theorem ev_txtC_10 : fTC 10 [zR 1, zI 4294967296] (hCt 10 4294967497) (fun r h => zands [zrI r, zsubH h (hCt 10 0)]) = true := by decide +kernel
set_option maxRecDepth 100000 in
theorem ev_txtC_11 : fTC 11 [zR 1, zI 4294967296] (hCt 11 4294967497) (fun r h => zands [zrI r, zsubH h (hCt 11 0)]) = true := by decide +kernel
set_option maxRecDepth 100000 in
theorem ev_txtC_12 : fTC 12 [zR 1, zI 4294967296] (hCt 12 4294967497) (fun r h => zands [zrI r, zsubH h (hCt 12 0)]) = true := by decide +kernel
set_option maxRecDepth 100000 in
theorem ev_txtC_13 : fTC 13 [zR 1, zI 4294967296] (hCt 13 4294967497) (fun r h => zands [zrI r, zsubH h (hCt 13 0)]) = true := by decide +kernel
set_option maxRecDepth 100000 in
theorem ev_txtC_14 : fTC 14 [zR 1, zI 4294967296] (hCt 14 4294967497) (fun r h => zands [zrI r, zsubH h (hCt 14 0)]) = true := by decide +kernel
set_option maxRecDepth 100000 in
theorem ev_txtC_15 : fTC 15 [zR 1, zI 4294967296] (hCt 15 4294967497) (fun r h => zands [zrI r, zsubH h (hCt 15 0)]) = true := by decide +kernel
set_option maxRecDepth 100000 in
theorem ev_txtC_16 : fTC 16 [zR 1, zI 4294967296] (hCt 16 4294967497) (fun r h => zands [zrI r, zsubH h (hCt 16 0)]) = true := by decide +kernel
set_option maxRecDepth 100000 in
theorem ev_txtC_17 : fTC 17 [zR 1, zI 4294967296] (hCt 17 4294967497) (fun r h => zands [zrI r, zsubH h (hCt 17 0)]) = true := by decide +kernel
set_option maxRecDepth 100000 in
theorem ev_txtC_18 : fTC 18 [zR 1, zI 4294967296] (hCt 18 4294967497) (fun r h => zands [zrI r, zsubH h (hCt 18 0)]) = true := by decide +kernel
set_option maxRecDepth 100000 in
theorem ev_txtC_19 : fTC 19 [zR 1, zI 4294967296] (hCt 19 4294967497) (fun r h => zands [zrI r, zsubH h (hCt 19 0)]) = true := by decide +kernel
set_option maxRecDepth 100000 in
theorem ev_txtC_20 : fTC 20 [zR 1, zI 4294967296] (hCt 20 4294967497) (fun r h => zands [zrI r, zsubH h (hCt 20 0)]) = true := by decide +kernel
set_option maxRecDepth 100000 in
theorem ev_txtC_21 : fTC 21 [zR 1, zI 4294967296] (hCt 21 4294967497) (fun r h => zands [zrI r, zsubH h (hCt 21 0)]) = true := by decide +kernel
set_option maxRecDepth 100000 in
theorem ev_txtC_22 : fTC 22 [zR 1, zI 4294967296] (hCt 22 4294967497) (fun r h => zands [zrI r, zsubH h (hCt 22 0)]) = true := by decide +kernel
set_option maxRecDepth 100000 in
theorem ev_txtC_23 : fTC 23 [zR 1, zI 4294967296] (hCt 23 4294967497) (fun r h => zands [zrI r, zsubH h (hCt 23 0)]) = true := by decide +kernel
theorem ev_txtC : ∀ g, g < 24 → fTC g [zR 1, zI 4294967296] (hCt g 4294967497) (fun r h => zands [zrI r, zsubH h (hCt g 0)]) = true
  | 0, _ => ev_txtC_0
  | 1, _ => ev_txtC_1
  | 2, _ => ev_txtC_2
  | 3, _ => ev_txtC_3
  | 4, _ => ev_txtC_4
  | 5, _ => ev_txtC_5
  | 6, _ => ev_txtC_6
  | 7, _ => ev_txtC_7
  | 8, _ => ev_txtC_8
  | 9, _ => ev_txtC_9
  | 10, _ => ev_txtC_10
  | 11, _ => ev_txtC_11
  | 12, _ => ev_txtC_12
  | 13, _ => ev_txtC_13
  | 14, _ => ev_txtC_14
  | 15, _ => ev_txtC_15
  | 16, _ => ev_txtC_16
  | 17, _ => ev_txtC_17
  | 18, _ => ev_txtC_18
  | 19, _ => ev_txtC_19
  | 20, _ => ev_txtC_20
  | 21, _ => ev_txtC_21
  | 22, _ => ev_txtC_22
  | 23, _ => ev_txtC_23
  | n + 24, h => absurd h (by omega)
noncomputable def fTR {d : Nat} (g : Nat) : List zV → zH d → zP d → Bool := match g with
  | 0 => g_textR_12
  | 1 => g_textR_12
  | 2 => g_textR_12
  | 3 => g_textR_12
  | 4 => g_textR_22
  | 5 => g_textR_23
  | 6 => g_textR_23
  | 7 => g_textR_23
  | 8 => g_textR_32
  | 9 => g_textR_33
  | 10 => g_textR_35
  | 11 => g_textR_35
  | 12 => g_textR_42
  | 13 => g_textR_43
  | 14 => g_textR_45
  | 15 => g_textR_45
  | 16 => g_textR_52
  | 17 => g_textR_53
  | 18 => g_textR_55
  | 19 => g_textR_57
  | 20 => g_textR_62
  | 21 => g_textR_63
  | 22 => g_textR_65
  | _ => g_textR_67
theorem mTR {d : Nat} : ∀ g : Nat, zMet (d := d) X_X9_text yX9_text 413 (fTR g)
  | 0 => m_textR_12
  | 1 => m_textR_12
  | 2 => m_textR_12
  | 3 => m_textR_12
  | 4 => m_textR_22
  | 5 => m_textR_23
  | 6 => m_textR_23
  | 7 => m_textR_23
  | 8 => m_textR_32
  | 9 => m_textR_33
  | 10 => m_textR_35
  | 11 => m_textR_35
  | 12 => m_textR_42
  | 13 => m_textR_43
  | 14 => m_textR_45
  | 15 => m_textR_45
  | 16 => m_textR_52
  | 17 => m_textR_53
  | 18 => m_textR_55
  | 19 => m_textR_57
  | 20 => m_textR_62
  | 21 => m_textR_63
  | 22 => m_textR_65
  | _ + 23 => m_textR_67
set_option maxRecDepth 100000 in
theorem ev_txtR_0 : fTR 0 [zR 1, zI 4294967296] (hRt 0 4294967497) (fun r h => zands [zrI r, zsubH h (hRt 0 0)]) = true := by decide +kernel
set_option maxRecDepth 100000 in
theorem ev_txtR_1 : fTR 1 [zR 1, zI 4294967296] (hRt 1 4294967497) (fun r h => zands [zrI r, zsubH h (hRt 1 0)]) = true := by decide +kernel
set_option maxRecDepth 100000 in
theorem ev_txtR_2 : fTR 2 [zR 1, zI 4294967296] (hRt 2 4294967497) (fun r h => zands [zrI r, zsubH h (hRt 2 0)]) = true := by decide +kernel
set_option maxRecDepth 100000 in
theorem ev_txtR_3 : fTR 3 [zR 1, zI 4294967296] (hRt 3 4294967497) (fun r h => zands [zrI r, zsubH h (hRt 3 0)]) = true := by decide +kernel
set_option maxRecDepth 100000 in
theorem ev_txtR_4 : fTR 4 [zR 1, zI 4294967296] (hRt 4 4294967497) (fun r h => zands [zrI r, zsubH h (hRt 4 0)]) = true := by decide +kernel
set_option maxRecDepth 100000 in
theorem ev_txtR_5 : fTR 5 [zR 1, zI 4294967296] (hRt 5 4294967497) (fun r h => zands [zrI r, zsubH h (hRt 5 0)]) = true := by decide +kernel
set_option maxRecDepth 100000 in
theorem ev_txtR_6 : fTR 6 [zR 1, zI 4294967296] (hRt 6 4294967497) (fun r h => zands [zrI r, zsubH h (hRt 6 0)]) = true := by decide +kernel
set_option maxRecDepth 100000 in
theorem ev_txtR_7 : fTR 7 [zR 1, zI 4294967296] (hRt 7 4294967497) (fun r h => zands [zrI r, zsubH h (hRt 7 0)]) = true := by decide +kernel
set_option maxRecDepth 100000 in
theorem ev_txtR_8 : fTR 8 [zR 1, zI 4294967296] (hRt 8 4294967497) (fun r h => zands [zrI r, zsubH h (hRt 8 0)]) = true := by decide +kernel
set_option maxRecDepth 100000 in
theorem ev_txtR_9 : fTR 9 [zR 1, zI 4294967296] (hRt 9 4294967497) (fun r h => zands [zrI r, zsubH h (hRt 9 0)]) = true := by decide +kernel
set_option maxRecDepth 100000 in
theorem ev_txtR_10 : fTR 10 [zR 1, zI 4294967296] (hRt 10 4294967497) (fun r h => zands [zrI r, zsubH h (hRt 10 0)]) = true := by decide +kernel
set_option maxRecDepth 100000 in
theorem ev_txtR_11 : fTR 11 [zR 1, zI 4294967296] (hRt 11 4294967497) (fun r h => zands [zrI r, zsubH h (hRt 11 0)]) = true := by decide +kernel
set_option maxRecDepth 100000 in
theorem ev_txtR_12 : fTR 12 [zR 1, zI 4294967296] (hRt 12 4294967497) (fun r h => zands [zrI r, zsubH h (hRt 12 0)]) = true := by decide +kernel
set_option maxRecDepth 100000 in
theorem ev_txtR_13 : fTR 13 [zR 1, zI 4294967296] (hRt 13 4294967497) (fun r h => zands [zrI r, zsubH h (hRt 13 0)]) = true := by decide +kernel
set_option maxRecDepth 100000 in
theorem ev_txtR_14 : fTR 14 [zR 1, zI 4294967296] (hRt 14 4294967497) (fun r h => zands [zrI r, zsubH h (hRt 14 0)]) = true := by decide +kernel
set_option maxRecDepth 100000 in
theorem ev_txtR_15 : fTR 15 [zR 1, zI 4294967296] (hRt 15 4294967497) (fun r h => zands [zrI r, zsubH h (hRt 15 0)]) = true := by decide +kernel
set_option maxRecDepth 100000 in
theorem ev_txtR_16 : fTR 16 [zR 1, zI 4294967296] (hRt 16 4294967497) (fun r h => zands [zrI r, zsubH h (hRt 16 0)]) = true := by decide +kernel
set_option maxRecDepth 100000 in
theorem ev_txtR_17 : fTR 17 [zR 1, zI 4294967296] (hRt 17 4294967497) (fun r h => zands [zrI r, zsubH h (hRt 17 0)]) = true := by decide +kernel
set_option maxRecDepth 100000 in
theorem ev_txtR_18 : fTR 18 [zR 1, zI 4294967296] (hRt 18 4294967497) (fun r h => zands [zrI r, zsubH h (hRt 18 0)]) = true := by decide +kernel
set_option maxRecDepth 100000 in
theorem ev_txtR_19 : fTR 19 [zR 1, zI 4294967296] (hRt 19 4294967497) (fun r h => zands [zrI r, zsubH h (hRt 19 0)]) = true := by decide +kernel
set_option maxRecDepth 100000 in
theorem ev_txtR_20 : fTR 20 [zR 1, zI 4294967296] (hRt 20 4294967497) (fun r h => zands [zrI r, zsubH h (hRt 20 0)]) = true := by decide +kernel
set_option maxRecDepth 100000 in
theorem ev_txtR_21 : fTR 21 [zR 1, zI 4294967296] (hRt 21 4294967497) (fun r h => zands [zrI r, zsubH h (hRt 21 0)]) = true := by decide +kernel
set_option maxRecDepth 100000 in
theorem ev_txtR_22 : fTR 22 [zR 1, zI 4294967296] (hRt 22 4294967497) (fun r h => zands [zrI r, zsubH h (hRt 22 0)]) = true := by decide +kernel
set_option maxRecDepth 100000 in
theorem ev_txtR_23 : fTR 23 [zR 1, zI 4294967296] (hRt 23 4294967497) (fun r h => zands [zrI r, zsubH h (hRt 23 0)]) = true := by decide +kernel
theorem ev_txtR : ∀ g, g < 24 → fTR g [zR 1, zI 4294967296] (hRt g 4294967497) (fun r h => zands [zrI r, zsubH h (hRt g 0)]) = true
  | 0, _ => ev_txtR_0
  | 1, _ => ev_txtR_1
  | 2, _ => ev_txtR_2
  | 3, _ => ev_txtR_3
  | 4, _ => ev_txtR_4
  | 5, _ => ev_txtR_5
  | 6, _ => ev_txtR_6
  | 7, _ => ev_txtR_7
  | 8, _ => ev_txtR_8
  | 9, _ => ev_txtR_9
  | 10, _ => ev_txtR_10
  | 11, _ => ev_txtR_11
  | 12, _ => ev_txtR_12
  | 13, _ => ev_txtR_13
  | 14, _ => ev_txtR_14
  | 15, _ => ev_txtR_15
  | 16, _ => ev_txtR_16
  | 17, _ => ev_txtR_17
  | 18, _ => ev_txtR_18
  | 19, _ => ev_txtR_19
  | 20, _ => ev_txtR_20
  | 21, _ => ev_txtR_21
  | 22, _ => ev_txtR_22
  | 23, _ => ev_txtR_23
  | n + 24, h => absurd h (by omega)
