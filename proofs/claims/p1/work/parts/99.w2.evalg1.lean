/-! group at the fresh state, leaf by leaf, by program -/
theorem lg_2_0 : zleaf zeqI 1000 80000 f_X8_groupa f_X9_groupb [zI 2, zI 0] = true := by decide +kernel
theorem lg_2_1 : zleaf zeqI 1000 80000 f_X8_groupa f_X9_groupb [zI 2, zI 1] = true := by decide +kernel
theorem lg_2_2 : zleaf zeqI 1000 80000 f_X8_groupa f_X9_groupb [zI 2, zI 2] = true := by decide +kernel
theorem lg_2_3 : zleaf zeqI 1000 80000 f_X8_groupa f_X9_groupb [zI 2, zI 3] = true := by decide +kernel
theorem lg_2_4 : zleaf zeqI 1000 80000 f_X8_groupa f_X9_groupb [zI 2, zI 4] = true := by decide +kernel
theorem lg_2_5 : zleaf zeqI 1000 80000 f_X8_groupa f_X9_groupb [zI 2, zI 5] = true := by decide +kernel
theorem lg_2_6 : zleaf zeqI 1000 80000 f_X8_groupa f_X9_groupb [zI 2, zI 6] = true := by decide +kernel
theorem lg_2_7 : zleaf zeqI 1000 80000 f_X8_groupa f_X9_groupb [zI 2, zI 7] = true := by decide +kernel
theorem lg_2_8 : zleaf zeqI 1000 80000 f_X8_groupa f_X9_groupb [zI 2, zI 8] = true := by decide +kernel
theorem lg_2_9 : zleaf zeqI 1000 80000 f_X8_groupa f_X9_groupb [zI 2, zI 9902047100928] = true := by decide +kernel
theorem lg_2_10 : zleaf zeqI 1000 80000 f_X8_groupa f_X9_groupb [zI 2, zI 2361183241443412541439] = true := by decide +kernel
theorem lg_2_11 : zleaf zeqI 1000 80000 f_X8_groupa f_X9_groupb [zI 2, zI 4294967295] = true := by decide +kernel
theorem lgr_2 : zrgs [0, 1, 2, 3, 4, 5, 6, 7, 8, 9902047100928, 2361183241443412541439, 4294967295] (fun b => zleaf zeqI 1000 80000 f_X8_groupa f_X9_groupb [zI 2, zI b]) = true := (zrgs_c lg_2_0 (zrgs_c lg_2_1 (zrgs_c lg_2_2 (zrgs_c lg_2_3 (zrgs_c lg_2_4 (zrgs_c lg_2_5 (zrgs_c lg_2_6 (zrgs_c lg_2_7 (zrgs_c lg_2_8 (zrgs_c lg_2_9 (zrgs_c lg_2_10 (zrgs_c lg_2_11 zrgs_n))))))))))))
