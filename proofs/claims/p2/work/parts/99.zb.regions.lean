/-! one more cut: by program -/
noncomputable def zlvR : List Nat := [0, 1, 2, 3, 4, 5, 6, 7, 8, 9, 10, 11, 12, 13, 14, 15, 16, 17, 18, 19, 20, 21, 22, 23, 24, 25, 26, 27, 28, 29, 30, 31, 35190814539776, 2361183241439117574144]
theorem zlvR_cv : zcvr zlvR 0 = true := by decide +kernel
