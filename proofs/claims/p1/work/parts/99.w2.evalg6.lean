/-! group at the fresh state, leaf by leaf, by program -/
theorem lg_7_0 : zleaf zeqI 1000 80000 f_X8_groupa f_X9_groupb [zI 7, zI 4294967296] = true := by decide +kernel
theorem lgr_7 : zrgs [4294967296] (fun b => zleaf zeqI 1000 80000 f_X8_groupa f_X9_groupb [zI 7, zI b]) = true := (zrgs_c lg_7_0 zrgs_n)
theorem lg_8_0 : zleaf zeqI 1000 80000 f_X8_groupa f_X9_groupb [zI 8, zI 4294967296] = true := by decide +kernel
theorem lgr_8 : zrgs [4294967296] (fun b => zleaf zeqI 1000 80000 f_X8_groupa f_X9_groupb [zI 8, zI b]) = true := (zrgs_c lg_8_0 zrgs_n)
theorem lg_9_0 : zleaf zeqI 1000 80000 f_X8_groupa f_X9_groupb [zI 9902047100928, zI 4294967296] = true := by decide +kernel
theorem lgr_9 : zrgs [4294967296] (fun b => zleaf zeqI 1000 80000 f_X8_groupa f_X9_groupb [zI 9902047100928, zI b]) = true := (zrgs_c lg_9_0 zrgs_n)
theorem lg_10_0 : zleaf zeqI 1000 80000 f_X8_groupa f_X9_groupb [zI 2361183241443412541439, zI 4294967296] = true := by decide +kernel
theorem lgr_10 : zrgs [4294967296] (fun b => zleaf zeqI 1000 80000 f_X8_groupa f_X9_groupb [zI 2361183241443412541439, zI b]) = true := (zrgs_c lg_10_0 zrgs_n)
theorem lg_11_0 : zleaf zeqI 1000 80000 f_X8_groupa f_X9_groupb [zI 4294967295, zI 4294967296] = true := by decide +kernel
theorem lgr_11 : zrgs [4294967296] (fun b => zleaf zeqI 1000 80000 f_X8_groupa f_X9_groupb [zI 4294967295, zI b]) = true := (zrgs_c lg_11_0 zrgs_n)
set_option maxRecDepth 100000 in
theorem ev_m_group : zrgs (zlv 5) (fun a => zrgs (zlv (zlkp [(1, 5), (2, 5), (3, 5), (4, 5), (5, 5), (6, 5)] a)) (fun b => zleaf zeqI 1000 80000 f_X8_groupa f_X9_groupb [zI a, zI b])) = true := (zrgs_c (r := 0) lgr_0 (zrgs_c (r := 1) lgr_1 (zrgs_c (r := 2) lgr_2 (zrgs_c (r := 3) lgr_3 (zrgs_c (r := 4) lgr_4 (zrgs_c (r := 5) lgr_5 (zrgs_c (r := 6) lgr_6 (zrgs_c (r := 7) lgr_7 (zrgs_c (r := 8) lgr_8 (zrgs_c (r := 9902047100928) lgr_9 (zrgs_c (r := 2361183241443412541439) lgr_10 (zrgs_c (r := 4294967295) lgr_11 zrgs_n))))))))))))
