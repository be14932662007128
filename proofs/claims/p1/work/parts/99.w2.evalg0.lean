/-! group at the fresh state, leaf by leaf, by program -/
theorem zrgs_c {K : Nat → Bool} {r : Nat} {Rs : List Nat} (h1 : K r = true) (h2 : zrgs Rs K = true) : zrgs (r :: Rs) K = true := by
  show cond (K r) (zrgs Rs K) false = true
  rw [h1]
  exact h2
theorem zrgs_n {K : Nat → Bool} : zrgs [] K = true := rfl
theorem lg_0_0 : zleaf zeqI 1000 80000 f_X8_groupa f_X9_groupb [zI 0, zI 4294967296] = true := by decide +kernel
theorem lgr_0 : zrgs [4294967296] (fun b => zleaf zeqI 1000 80000 f_X8_groupa f_X9_groupb [zI 0, zI b]) = true := (zrgs_c lg_0_0 zrgs_n)
theorem lg_1_0 : zleaf zeqI 1000 80000 f_X8_groupa f_X9_groupb [zI 1, zI 0] = true := by decide +kernel
theorem lg_1_1 : zleaf zeqI 1000 80000 f_X8_groupa f_X9_groupb [zI 1, zI 1] = true := by decide +kernel
theorem lg_1_2 : zleaf zeqI 1000 80000 f_X8_groupa f_X9_groupb [zI 1, zI 2] = true := by decide +kernel
theorem lg_1_3 : zleaf zeqI 1000 80000 f_X8_groupa f_X9_groupb [zI 1, zI 3] = true := by decide +kernel
theorem lg_1_4 : zleaf zeqI 1000 80000 f_X8_groupa f_X9_groupb [zI 1, zI 4] = true := by decide +kernel
theorem lg_1_5 : zleaf zeqI 1000 80000 f_X8_groupa f_X9_groupb [zI 1, zI 5] = true := by decide +kernel
theorem lg_1_6 : zleaf zeqI 1000 80000 f_X8_groupa f_X9_groupb [zI 1, zI 6] = true := by decide +kernel
theorem lg_1_7 : zleaf zeqI 1000 80000 f_X8_groupa f_X9_groupb [zI 1, zI 7] = true := by decide +kernel
theorem lg_1_8 : zleaf zeqI 1000 80000 f_X8_groupa f_X9_groupb [zI 1, zI 8] = true := by decide +kernel
theorem lg_1_9 : zleaf zeqI 1000 80000 f_X8_groupa f_X9_groupb [zI 1, zI 9902047100928] = true := by decide +kernel
theorem lg_1_10 : zleaf zeqI 1000 80000 f_X8_groupa f_X9_groupb [zI 1, zI 2361183241443412541439] = true := by decide +kernel
theorem lg_1_11 : zleaf zeqI 1000 80000 f_X8_groupa f_X9_groupb [zI 1, zI 4294967295] = true := by decide +kernel
theorem lgr_1 : zrgs [0, 1, 2, 3, 4, 5, 6, 7, 8, 9902047100928, 2361183241443412541439, 4294967295] (fun b => zleaf zeqI 1000 80000 f_X8_groupa f_X9_groupb [zI 1, zI b]) = true := (zrgs_c lg_1_0 (zrgs_c lg_1_1 (zrgs_c lg_1_2 (zrgs_c lg_1_3 (zrgs_c lg_1_4 (zrgs_c lg_1_5 (zrgs_c lg_1_6 (zrgs_c lg_1_7 (zrgs_c lg_1_8 (zrgs_c lg_1_9 (zrgs_c lg_1_10 (zrgs_c lg_1_11 zrgs_n))))))))))))
