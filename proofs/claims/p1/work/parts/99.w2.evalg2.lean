/-! group at the fresh state, leaf by leaf, by program -/
theorem lg_3_0 : zleaf zeqI 1000 80000 f_X8_groupa f_X9_groupb [zI 3, zI 0] = true := by decide +kernel
theorem lg_3_1 : zleaf zeqI 1000 80000 f_X8_groupa f_X9_groupb [zI 3, zI 1] = true := by decide +kernel
theorem lg_3_2 : zleaf zeqI 1000 80000 f_X8_groupa f_X9_groupb [zI 3, zI 2] = true := by decide +kernel
theorem lg_3_3 : zleaf zeqI 1000 80000 f_X8_groupa f_X9_groupb [zI 3, zI 3] = true := by decide +kernel
theorem lg_3_4 : zleaf zeqI 1000 80000 f_X8_groupa f_X9_groupb [zI 3, zI 4] = true := by decide +kernel
theorem lg_3_5 : zleaf zeqI 1000 80000 f_X8_groupa f_X9_groupb [zI 3, zI 5] = true := by decide +kernel
theorem lg_3_6 : zleaf zeqI 1000 80000 f_X8_groupa f_X9_groupb [zI 3, zI 6] = true := by decide +kernel
theorem lg_3_7 : zleaf zeqI 1000 80000 f_X8_groupa f_X9_groupb [zI 3, zI 7] = true := by decide +kernel
theorem lg_3_8 : zleaf zeqI 1000 80000 f_X8_groupa f_X9_groupb [zI 3, zI 8] = true := by decide +kernel
theorem lg_3_9 : zleaf zeqI 1000 80000 f_X8_groupa f_X9_groupb [zI 3, zI 9902047100928] = true := by decide +kernel
theorem lg_3_10 : zleaf zeqI 1000 80000 f_X8_groupa f_X9_groupb [zI 3, zI 2361183241443412541439] = true := by decide +kernel
theorem lg_3_11 : zleaf zeqI 1000 80000 f_X8_groupa f_X9_groupb [zI 3, zI 4294967295] = true := by decide +kernel
theorem lgr_3 : zrgs [0, 1, 2, 3, 4, 5, 6, 7, 8, 9902047100928, 2361183241443412541439, 4294967295] (fun b => zleaf zeqI 1000 80000 f_X8_groupa f_X9_groupb [zI 3, zI b]) = true := (zrgs_c lg_3_0 (zrgs_c lg_3_1 (zrgs_c lg_3_2 (zrgs_c lg_3_3 (zrgs_c lg_3_4 (zrgs_c lg_3_5 (zrgs_c lg_3_6 (zrgs_c lg_3_7 (zrgs_c lg_3_8 (zrgs_c lg_3_9 (zrgs_c lg_3_10 (zrgs_c lg_3_11 zrgs_n))))))))))))
