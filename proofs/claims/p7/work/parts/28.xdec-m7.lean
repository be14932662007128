section
/-! instructions, by program -/
theorem zdT_dX9_see_0 : zdch cX9_see [(0, (.aload_n 0, 1)), (1, (.getfield 353, 3)), (4, (.aload_n 0, 1)), (5, (.getfield 347, 3)), (8, (.if_icmp .ge 44, 3)), (11, (.aload_n 0, 1)), (12, (.getfield 121, 3)), (15, (.aload_n 0, 1)), (16, (.getfield 353, 3)), (19, (.iaload, 1)), (20, (.bipush 32, 2)), (22, (.if_icmp .eq 17, 3)), (25, (.aload_n 0, 1)), (26, (.getfield 121, 3)), (29, (.aload_n 0, 1)), (30, (.getfield 353, 3)), (33, (.iaload, 1)), (34, (.bipush 10, 2)), (36, (.if_icmp .ne 16, 3)), (39, (.aload_n 0, 1)), (40, (.dup, 1)), (41, (.getfield 353, 3)), (44, (.iconst 1, 1)), (45, (.iadd, 1)), (46, (.putfield 353, 3))] = true := by decide +kernel
theorem dX9_see_0 : decode cX9_see 0 = .ok (.aload_n 0, 1) := zdcg 0 zdT_dX9_see_0 rfl
theorem dX9_see_1 : decode cX9_see 1 = .ok (.getfield 353, 3) := zdcg 1 zdT_dX9_see_0 rfl
theorem dX9_see_4 : decode cX9_see 4 = .ok (.aload_n 0, 1) := zdcg 2 zdT_dX9_see_0 rfl
theorem dX9_see_5 : decode cX9_see 5 = .ok (.getfield 347, 3) := zdcg 3 zdT_dX9_see_0 rfl
theorem dX9_see_8 : decode cX9_see 8 = .ok (.if_icmp .ge 44, 3) := zdcg 4 zdT_dX9_see_0 rfl
theorem dX9_see_11 : decode cX9_see 11 = .ok (.aload_n 0, 1) := zdcg 5 zdT_dX9_see_0 rfl
theorem dX9_see_12 : decode cX9_see 12 = .ok (.getfield 121, 3) := zdcg 6 zdT_dX9_see_0 rfl
theorem dX9_see_15 : decode cX9_see 15 = .ok (.aload_n 0, 1) := zdcg 7 zdT_dX9_see_0 rfl
theorem dX9_see_16 : decode cX9_see 16 = .ok (.getfield 353, 3) := zdcg 8 zdT_dX9_see_0 rfl
theorem dX9_see_19 : decode cX9_see 19 = .ok (.iaload, 1) := zdcg 9 zdT_dX9_see_0 rfl
theorem dX9_see_20 : decode cX9_see 20 = .ok (.bipush 32, 2) := zdcg 10 zdT_dX9_see_0 rfl
theorem dX9_see_22 : decode cX9_see 22 = .ok (.if_icmp .eq 17, 3) := zdcg 11 zdT_dX9_see_0 rfl
theorem dX9_see_25 : decode cX9_see 25 = .ok (.aload_n 0, 1) := zdcg 12 zdT_dX9_see_0 rfl
theorem dX9_see_26 : decode cX9_see 26 = .ok (.getfield 121, 3) := zdcg 13 zdT_dX9_see_0 rfl
theorem dX9_see_29 : decode cX9_see 29 = .ok (.aload_n 0, 1) := zdcg 14 zdT_dX9_see_0 rfl
theorem dX9_see_30 : decode cX9_see 30 = .ok (.getfield 353, 3) := zdcg 15 zdT_dX9_see_0 rfl
theorem dX9_see_33 : decode cX9_see 33 = .ok (.iaload, 1) := zdcg 16 zdT_dX9_see_0 rfl
theorem dX9_see_34 : decode cX9_see 34 = .ok (.bipush 10, 2) := zdcg 17 zdT_dX9_see_0 rfl
theorem dX9_see_36 : decode cX9_see 36 = .ok (.if_icmp .ne 16, 3) := zdcg 18 zdT_dX9_see_0 rfl
theorem dX9_see_39 : decode cX9_see 39 = .ok (.aload_n 0, 1) := zdcg 19 zdT_dX9_see_0 rfl
theorem dX9_see_40 : decode cX9_see 40 = .ok (.dup, 1) := zdcg 20 zdT_dX9_see_0 rfl
theorem dX9_see_41 : decode cX9_see 41 = .ok (.getfield 353, 3) := zdcg 21 zdT_dX9_see_0 rfl
theorem dX9_see_44 : decode cX9_see 44 = .ok (.iconst 1, 1) := zdcg 22 zdT_dX9_see_0 rfl
theorem dX9_see_45 : decode cX9_see 45 = .ok (.iadd, 1) := zdcg 23 zdT_dX9_see_0 rfl
theorem dX9_see_46 : decode cX9_see 46 = .ok (.putfield 353, 3) := zdcg 24 zdT_dX9_see_0 rfl
theorem zdT_dX9_see_49 : zdch cX9_see [(49, (.goto (-49), 3)), (52, (.aload_n 0, 1)), (53, (.getfield 353, 3)), (56, (.aload_n 0, 1)), (57, (.getfield 347, 3)), (60, (.if_icmp .ge 15, 3)), (63, (.aload_n 0, 1)), (64, (.getfield 121, 3)), (67, (.aload_n 0, 1)), (68, (.getfield 353, 3)), (71, (.iaload, 1)), (72, (.goto 4, 3)), (75, (.iconst (-1), 1)), (76, (.ireturn, 1))] = true := by decide +kernel
theorem dX9_see_49 : decode cX9_see 49 = .ok (.goto (-49), 3) := zdcg 0 zdT_dX9_see_49 rfl
theorem dX9_see_52 : decode cX9_see 52 = .ok (.aload_n 0, 1) := zdcg 1 zdT_dX9_see_49 rfl
theorem dX9_see_53 : decode cX9_see 53 = .ok (.getfield 353, 3) := zdcg 2 zdT_dX9_see_49 rfl
theorem dX9_see_56 : decode cX9_see 56 = .ok (.aload_n 0, 1) := zdcg 3 zdT_dX9_see_49 rfl
theorem dX9_see_57 : decode cX9_see 57 = .ok (.getfield 347, 3) := zdcg 4 zdT_dX9_see_49 rfl
theorem dX9_see_60 : decode cX9_see 60 = .ok (.if_icmp .ge 15, 3) := zdcg 5 zdT_dX9_see_49 rfl
theorem dX9_see_63 : decode cX9_see 63 = .ok (.aload_n 0, 1) := zdcg 6 zdT_dX9_see_49 rfl
theorem dX9_see_64 : decode cX9_see 64 = .ok (.getfield 121, 3) := zdcg 7 zdT_dX9_see_49 rfl
theorem dX9_see_67 : decode cX9_see 67 = .ok (.aload_n 0, 1) := zdcg 8 zdT_dX9_see_49 rfl
theorem dX9_see_68 : decode cX9_see 68 = .ok (.getfield 353, 3) := zdcg 9 zdT_dX9_see_49 rfl
theorem dX9_see_71 : decode cX9_see 71 = .ok (.iaload, 1) := zdcg 10 zdT_dX9_see_49 rfl
theorem dX9_see_72 : decode cX9_see 72 = .ok (.goto 4, 3) := zdcg 11 zdT_dX9_see_49 rfl
theorem dX9_see_75 : decode cX9_see 75 = .ok (.iconst (-1), 1) := zdcg 12 zdT_dX9_see_49 rfl
theorem dX9_see_76 : decode cX9_see 76 = .ok (.ireturn, 1) := zdcg 13 zdT_dX9_see_49 rfl
theorem zdT_dX9_fails_0 : zdch cX9_fails [(0, (.aload_n 0, 1)), (1, (.getfield 356, 3)), (4, (.ifCond .eq 5, 3)), (7, (.iconst 0, 1)), (8, (.ireturn, 1)), (9, (.aload_n 0, 1)), (10, (.iload_n 1, 1)), (11, (.putfield 356, 3)), (14, (.aload_n 0, 1)), (15, (.iload_n 2, 1)), (16, (.putfield 124, 3)), (19, (.aload_n 0, 1)), (20, (.iload_n 1, 1)), (21, (.iconst 1, 1)), (22, (.if_icmp .ne 7, 3)), (25, (.iconst 0, 1)), (26, (.goto 7, 3)), (29, (.aload_n 0, 1)), (30, (.getfield 359, 3)), (33, (.putfield 361, 3)), (36, (.iconst 0, 1)), (37, (.istore_n 3, 1)), (38, (.iload_n 3, 1)), (39, (.aload_n 0, 1)), (40, (.getfield 361, 3))] = true := by decide +kernel
theorem dX9_fails_0 : decode cX9_fails 0 = .ok (.aload_n 0, 1) := zdcg 0 zdT_dX9_fails_0 rfl
theorem dX9_fails_1 : decode cX9_fails 1 = .ok (.getfield 356, 3) := zdcg 1 zdT_dX9_fails_0 rfl
theorem dX9_fails_4 : decode cX9_fails 4 = .ok (.ifCond .eq 5, 3) := zdcg 2 zdT_dX9_fails_0 rfl
theorem dX9_fails_7 : decode cX9_fails 7 = .ok (.iconst 0, 1) := zdcg 3 zdT_dX9_fails_0 rfl
theorem dX9_fails_8 : decode cX9_fails 8 = .ok (.ireturn, 1) := zdcg 4 zdT_dX9_fails_0 rfl
theorem dX9_fails_9 : decode cX9_fails 9 = .ok (.aload_n 0, 1) := zdcg 5 zdT_dX9_fails_0 rfl
theorem dX9_fails_10 : decode cX9_fails 10 = .ok (.iload_n 1, 1) := zdcg 6 zdT_dX9_fails_0 rfl
theorem dX9_fails_11 : decode cX9_fails 11 = .ok (.putfield 356, 3) := zdcg 7 zdT_dX9_fails_0 rfl
theorem dX9_fails_14 : decode cX9_fails 14 = .ok (.aload_n 0, 1) := zdcg 8 zdT_dX9_fails_0 rfl
theorem dX9_fails_15 : decode cX9_fails 15 = .ok (.iload_n 2, 1) := zdcg 9 zdT_dX9_fails_0 rfl
theorem dX9_fails_16 : decode cX9_fails 16 = .ok (.putfield 124, 3) := zdcg 10 zdT_dX9_fails_0 rfl
theorem dX9_fails_19 : decode cX9_fails 19 = .ok (.aload_n 0, 1) := zdcg 11 zdT_dX9_fails_0 rfl
theorem dX9_fails_20 : decode cX9_fails 20 = .ok (.iload_n 1, 1) := zdcg 12 zdT_dX9_fails_0 rfl
theorem dX9_fails_21 : decode cX9_fails 21 = .ok (.iconst 1, 1) := zdcg 13 zdT_dX9_fails_0 rfl
theorem dX9_fails_22 : decode cX9_fails 22 = .ok (.if_icmp .ne 7, 3) := zdcg 14 zdT_dX9_fails_0 rfl
theorem dX9_fails_25 : decode cX9_fails 25 = .ok (.iconst 0, 1) := zdcg 15 zdT_dX9_fails_0 rfl
theorem dX9_fails_26 : decode cX9_fails 26 = .ok (.goto 7, 3) := zdcg 16 zdT_dX9_fails_0 rfl
theorem dX9_fails_29 : decode cX9_fails 29 = .ok (.aload_n 0, 1) := zdcg 17 zdT_dX9_fails_0 rfl
theorem dX9_fails_30 : decode cX9_fails 30 = .ok (.getfield 359, 3) := zdcg 18 zdT_dX9_fails_0 rfl
theorem dX9_fails_33 : decode cX9_fails 33 = .ok (.putfield 361, 3) := zdcg 19 zdT_dX9_fails_0 rfl
theorem dX9_fails_36 : decode cX9_fails 36 = .ok (.iconst 0, 1) := zdcg 20 zdT_dX9_fails_0 rfl
theorem dX9_fails_37 : decode cX9_fails 37 = .ok (.istore_n 3, 1) := zdcg 21 zdT_dX9_fails_0 rfl
theorem dX9_fails_38 : decode cX9_fails 38 = .ok (.iload_n 3, 1) := zdcg 22 zdT_dX9_fails_0 rfl
theorem dX9_fails_39 : decode cX9_fails 39 = .ok (.aload_n 0, 1) := zdcg 23 zdT_dX9_fails_0 rfl
theorem dX9_fails_40 : decode cX9_fails 40 = .ok (.getfield 361, 3) := zdcg 24 zdT_dX9_fails_0 rfl
theorem zdT_dX9_fails_43 : zdch cX9_fails [(43, (.if_icmp .ge 28, 3)), (46, (.aload_n 0, 1)), (47, (.getfield 128, 3)), (50, (.iload_n 3, 1)), (51, (.aload_n 0, 1)), (52, (.getfield 131, 3)), (55, (.aload_n 0, 1)), (56, (.getfield 359, 3)), (59, (.iconst 1, 1)), (60, (.isub, 1)), (61, (.iload_n 3, 1)), (62, (.isub, 1)), (63, (.iaload, 1)), (64, (.iastore, 1)), (65, (.iinc 3 1, 3)), (68, (.goto (-30), 3)), (71, (.iconst 0, 1)), (72, (.ireturn, 1))] = true := by decide +kernel
theorem dX9_fails_43 : decode cX9_fails 43 = .ok (.if_icmp .ge 28, 3) := zdcg 0 zdT_dX9_fails_43 rfl
theorem dX9_fails_46 : decode cX9_fails 46 = .ok (.aload_n 0, 1) := zdcg 1 zdT_dX9_fails_43 rfl
theorem dX9_fails_47 : decode cX9_fails 47 = .ok (.getfield 128, 3) := zdcg 2 zdT_dX9_fails_43 rfl
theorem dX9_fails_50 : decode cX9_fails 50 = .ok (.iload_n 3, 1) := zdcg 3 zdT_dX9_fails_43 rfl
theorem dX9_fails_51 : decode cX9_fails 51 = .ok (.aload_n 0, 1) := zdcg 4 zdT_dX9_fails_43 rfl
theorem dX9_fails_52 : decode cX9_fails 52 = .ok (.getfield 131, 3) := zdcg 5 zdT_dX9_fails_43 rfl
theorem dX9_fails_55 : decode cX9_fails 55 = .ok (.aload_n 0, 1) := zdcg 6 zdT_dX9_fails_43 rfl
theorem dX9_fails_56 : decode cX9_fails 56 = .ok (.getfield 359, 3) := zdcg 7 zdT_dX9_fails_43 rfl
theorem dX9_fails_59 : decode cX9_fails 59 = .ok (.iconst 1, 1) := zdcg 8 zdT_dX9_fails_43 rfl
theorem dX9_fails_60 : decode cX9_fails 60 = .ok (.isub, 1) := zdcg 9 zdT_dX9_fails_43 rfl
theorem dX9_fails_61 : decode cX9_fails 61 = .ok (.iload_n 3, 1) := zdcg 10 zdT_dX9_fails_43 rfl
theorem dX9_fails_62 : decode cX9_fails 62 = .ok (.isub, 1) := zdcg 11 zdT_dX9_fails_43 rfl
theorem dX9_fails_63 : decode cX9_fails 63 = .ok (.iaload, 1) := zdcg 12 zdT_dX9_fails_43 rfl
theorem dX9_fails_64 : decode cX9_fails 64 = .ok (.iastore, 1) := zdcg 13 zdT_dX9_fails_43 rfl
theorem dX9_fails_65 : decode cX9_fails 65 = .ok (.iinc 3 1, 3) := zdcg 14 zdT_dX9_fails_43 rfl
theorem dX9_fails_68 : decode cX9_fails 68 = .ok (.goto (-30), 3) := zdcg 15 zdT_dX9_fails_43 rfl
theorem dX9_fails_71 : decode cX9_fails 71 = .ok (.iconst 0, 1) := zdcg 16 zdT_dX9_fails_43 rfl
theorem dX9_fails_72 : decode cX9_fails 72 = .ok (.ireturn, 1) := zdcg 17 zdT_dX9_fails_43 rfl
theorem zdT_dX9_begin_0 : zdch cX9_begin [(0, (.aload_n 0, 1)), (1, (.invokevirtual 364, 3)), (4, (.pop, 1)), (5, (.aload_n 0, 1)), (6, (.getfield 131, 3)), (9, (.aload_n 0, 1)), (10, (.getfield 359, 3)), (13, (.aload_n 0, 1)), (14, (.getfield 353, 3)), (17, (.iastore, 1)), (18, (.aload_n 0, 1)), (19, (.dup, 1)), (20, (.getfield 359, 3)), (23, (.iconst 1, 1)), (24, (.iadd, 1)), (25, (.putfield 359, 3)), (28, (.return_, 1))] = true := by decide +kernel
theorem dX9_begin_0 : decode cX9_begin 0 = .ok (.aload_n 0, 1) := zdcg 0 zdT_dX9_begin_0 rfl
theorem dX9_begin_1 : decode cX9_begin 1 = .ok (.invokevirtual 364, 3) := zdcg 1 zdT_dX9_begin_0 rfl
theorem dX9_begin_4 : decode cX9_begin 4 = .ok (.pop, 1) := zdcg 2 zdT_dX9_begin_0 rfl
theorem dX9_begin_5 : decode cX9_begin 5 = .ok (.aload_n 0, 1) := zdcg 3 zdT_dX9_begin_0 rfl
theorem dX9_begin_6 : decode cX9_begin 6 = .ok (.getfield 131, 3) := zdcg 4 zdT_dX9_begin_0 rfl
theorem dX9_begin_9 : decode cX9_begin 9 = .ok (.aload_n 0, 1) := zdcg 5 zdT_dX9_begin_0 rfl
theorem dX9_begin_10 : decode cX9_begin 10 = .ok (.getfield 359, 3) := zdcg 6 zdT_dX9_begin_0 rfl
theorem dX9_begin_13 : decode cX9_begin 13 = .ok (.aload_n 0, 1) := zdcg 7 zdT_dX9_begin_0 rfl
theorem dX9_begin_14 : decode cX9_begin 14 = .ok (.getfield 353, 3) := zdcg 8 zdT_dX9_begin_0 rfl
theorem dX9_begin_17 : decode cX9_begin 17 = .ok (.iastore, 1) := zdcg 9 zdT_dX9_begin_0 rfl
theorem dX9_begin_18 : decode cX9_begin 18 = .ok (.aload_n 0, 1) := zdcg 10 zdT_dX9_begin_0 rfl
theorem dX9_begin_19 : decode cX9_begin 19 = .ok (.dup, 1) := zdcg 11 zdT_dX9_begin_0 rfl
theorem dX9_begin_20 : decode cX9_begin 20 = .ok (.getfield 359, 3) := zdcg 12 zdT_dX9_begin_0 rfl
theorem dX9_begin_23 : decode cX9_begin 23 = .ok (.iconst 1, 1) := zdcg 13 zdT_dX9_begin_0 rfl
theorem dX9_begin_24 : decode cX9_begin 24 = .ok (.iadd, 1) := zdcg 14 zdT_dX9_begin_0 rfl
theorem dX9_begin_25 : decode cX9_begin 25 = .ok (.putfield 359, 3) := zdcg 15 zdT_dX9_begin_0 rfl
theorem dX9_begin_28 : decode cX9_begin 28 = .ok (.return_, 1) := zdcg 16 zdT_dX9_begin_0 rfl
theorem zdT_dX9_readsNumber_0 : zdch cX9_readsNumber [(0, (.aload_n 0, 1)), (1, (.invokevirtual 364, 3)), (4, (.pop, 1)), (5, (.aload_n 0, 1)), (6, (.aload_n 0, 1)), (7, (.getfield 353, 3)), (10, (.putfield 367, 3)), (13, (.aload_n 0, 1)), (14, (.iconst 0, 1)), (15, (.putfield 370, 3)), (18, (.aload_n 0, 1)), (19, (.getfield 353, 3)), (22, (.aload_n 0, 1)), (23, (.getfield 347, 3)), (26, (.if_icmp .ge 75, 3)), (29, (.aload_n 0, 1)), (30, (.getfield 121, 3)), (33, (.aload_n 0, 1)), (34, (.getfield 353, 3)), (37, (.iaload, 1)), (38, (.i2l, 1)), (39, (.ldc2_w 373, 3)), (42, (.ldc2_w 375, 3)), (45, (.invokestatic 283, 3)), (48, (.ifCond .eq 53, 3))] = true := by decide +kernel
theorem dX9_readsNumber_0 : decode cX9_readsNumber 0 = .ok (.aload_n 0, 1) := zdcg 0 zdT_dX9_readsNumber_0 rfl
theorem dX9_readsNumber_1 : decode cX9_readsNumber 1 = .ok (.invokevirtual 364, 3) := zdcg 1 zdT_dX9_readsNumber_0 rfl
theorem dX9_readsNumber_4 : decode cX9_readsNumber 4 = .ok (.pop, 1) := zdcg 2 zdT_dX9_readsNumber_0 rfl
theorem dX9_readsNumber_5 : decode cX9_readsNumber 5 = .ok (.aload_n 0, 1) := zdcg 3 zdT_dX9_readsNumber_0 rfl
theorem dX9_readsNumber_6 : decode cX9_readsNumber 6 = .ok (.aload_n 0, 1) := zdcg 4 zdT_dX9_readsNumber_0 rfl
theorem dX9_readsNumber_7 : decode cX9_readsNumber 7 = .ok (.getfield 353, 3) := zdcg 5 zdT_dX9_readsNumber_0 rfl
theorem dX9_readsNumber_10 : decode cX9_readsNumber 10 = .ok (.putfield 367, 3) := zdcg 6 zdT_dX9_readsNumber_0 rfl
theorem dX9_readsNumber_13 : decode cX9_readsNumber 13 = .ok (.aload_n 0, 1) := zdcg 7 zdT_dX9_readsNumber_0 rfl
theorem dX9_readsNumber_14 : decode cX9_readsNumber 14 = .ok (.iconst 0, 1) := zdcg 8 zdT_dX9_readsNumber_0 rfl
theorem dX9_readsNumber_15 : decode cX9_readsNumber 15 = .ok (.putfield 370, 3) := zdcg 9 zdT_dX9_readsNumber_0 rfl
theorem dX9_readsNumber_18 : decode cX9_readsNumber 18 = .ok (.aload_n 0, 1) := zdcg 10 zdT_dX9_readsNumber_0 rfl
theorem dX9_readsNumber_19 : decode cX9_readsNumber 19 = .ok (.getfield 353, 3) := zdcg 11 zdT_dX9_readsNumber_0 rfl
theorem dX9_readsNumber_22 : decode cX9_readsNumber 22 = .ok (.aload_n 0, 1) := zdcg 12 zdT_dX9_readsNumber_0 rfl
theorem dX9_readsNumber_23 : decode cX9_readsNumber 23 = .ok (.getfield 347, 3) := zdcg 13 zdT_dX9_readsNumber_0 rfl
theorem dX9_readsNumber_26 : decode cX9_readsNumber 26 = .ok (.if_icmp .ge 75, 3) := zdcg 14 zdT_dX9_readsNumber_0 rfl
theorem dX9_readsNumber_29 : decode cX9_readsNumber 29 = .ok (.aload_n 0, 1) := zdcg 15 zdT_dX9_readsNumber_0 rfl
theorem dX9_readsNumber_30 : decode cX9_readsNumber 30 = .ok (.getfield 121, 3) := zdcg 16 zdT_dX9_readsNumber_0 rfl
theorem dX9_readsNumber_33 : decode cX9_readsNumber 33 = .ok (.aload_n 0, 1) := zdcg 17 zdT_dX9_readsNumber_0 rfl
theorem dX9_readsNumber_34 : decode cX9_readsNumber 34 = .ok (.getfield 353, 3) := zdcg 18 zdT_dX9_readsNumber_0 rfl
theorem dX9_readsNumber_37 : decode cX9_readsNumber 37 = .ok (.iaload, 1) := zdcg 19 zdT_dX9_readsNumber_0 rfl
theorem dX9_readsNumber_38 : decode cX9_readsNumber 38 = .ok (.i2l, 1) := zdcg 20 zdT_dX9_readsNumber_0 rfl
theorem dX9_readsNumber_39 : decode cX9_readsNumber 39 = .ok (.ldc2_w 373, 3) := zdcg 21 zdT_dX9_readsNumber_0 rfl
theorem dX9_readsNumber_42 : decode cX9_readsNumber 42 = .ok (.ldc2_w 375, 3) := zdcg 22 zdT_dX9_readsNumber_0 rfl
theorem dX9_readsNumber_45 : decode cX9_readsNumber 45 = .ok (.invokestatic 283, 3) := zdcg 23 zdT_dX9_readsNumber_0 rfl
theorem dX9_readsNumber_48 : decode cX9_readsNumber 48 = .ok (.ifCond .eq 53, 3) := zdcg 24 zdT_dX9_readsNumber_0 rfl
theorem zdT_dX9_readsNumber_51 : zdch cX9_readsNumber [(51, (.aload_n 0, 1)), (52, (.getfield 353, 3)), (55, (.aload_n 0, 1)), (56, (.getfield 367, 3)), (59, (.isub, 1)), (60, (.iconst 5, 1)), (61, (.if_icmp .ge 27, 3)), (64, (.aload_n 0, 1)), (65, (.bipush 10, 2)), (67, (.aload_n 0, 1)), (68, (.getfield 370, 3)), (71, (.imul, 1)), (72, (.aload_n 0, 1)), (73, (.getfield 121, 3)), (76, (.aload_n 0, 1)), (77, (.getfield 353, 3)), (80, (.iaload, 1)), (81, (.iadd, 1)), (82, (.bipush 48, 2)), (84, (.isub, 1)), (85, (.putfield 370, 3)), (88, (.aload_n 0, 1)), (89, (.dup, 1)), (90, (.getfield 353, 3)), (93, (.iconst 1, 1))] = true := by decide +kernel
theorem dX9_readsNumber_51 : decode cX9_readsNumber 51 = .ok (.aload_n 0, 1) := zdcg 0 zdT_dX9_readsNumber_51 rfl
theorem dX9_readsNumber_52 : decode cX9_readsNumber 52 = .ok (.getfield 353, 3) := zdcg 1 zdT_dX9_readsNumber_51 rfl
theorem dX9_readsNumber_55 : decode cX9_readsNumber 55 = .ok (.aload_n 0, 1) := zdcg 2 zdT_dX9_readsNumber_51 rfl
theorem dX9_readsNumber_56 : decode cX9_readsNumber 56 = .ok (.getfield 367, 3) := zdcg 3 zdT_dX9_readsNumber_51 rfl
theorem dX9_readsNumber_59 : decode cX9_readsNumber 59 = .ok (.isub, 1) := zdcg 4 zdT_dX9_readsNumber_51 rfl
theorem dX9_readsNumber_60 : decode cX9_readsNumber 60 = .ok (.iconst 5, 1) := zdcg 5 zdT_dX9_readsNumber_51 rfl
theorem dX9_readsNumber_61 : decode cX9_readsNumber 61 = .ok (.if_icmp .ge 27, 3) := zdcg 6 zdT_dX9_readsNumber_51 rfl
theorem dX9_readsNumber_64 : decode cX9_readsNumber 64 = .ok (.aload_n 0, 1) := zdcg 7 zdT_dX9_readsNumber_51 rfl
theorem dX9_readsNumber_65 : decode cX9_readsNumber 65 = .ok (.bipush 10, 2) := zdcg 8 zdT_dX9_readsNumber_51 rfl
theorem dX9_readsNumber_67 : decode cX9_readsNumber 67 = .ok (.aload_n 0, 1) := zdcg 9 zdT_dX9_readsNumber_51 rfl
theorem dX9_readsNumber_68 : decode cX9_readsNumber 68 = .ok (.getfield 370, 3) := zdcg 10 zdT_dX9_readsNumber_51 rfl
theorem dX9_readsNumber_71 : decode cX9_readsNumber 71 = .ok (.imul, 1) := zdcg 11 zdT_dX9_readsNumber_51 rfl
theorem dX9_readsNumber_72 : decode cX9_readsNumber 72 = .ok (.aload_n 0, 1) := zdcg 12 zdT_dX9_readsNumber_51 rfl
theorem dX9_readsNumber_73 : decode cX9_readsNumber 73 = .ok (.getfield 121, 3) := zdcg 13 zdT_dX9_readsNumber_51 rfl
theorem dX9_readsNumber_76 : decode cX9_readsNumber 76 = .ok (.aload_n 0, 1) := zdcg 14 zdT_dX9_readsNumber_51 rfl
theorem dX9_readsNumber_77 : decode cX9_readsNumber 77 = .ok (.getfield 353, 3) := zdcg 15 zdT_dX9_readsNumber_51 rfl
theorem dX9_readsNumber_80 : decode cX9_readsNumber 80 = .ok (.iaload, 1) := zdcg 16 zdT_dX9_readsNumber_51 rfl
theorem dX9_readsNumber_81 : decode cX9_readsNumber 81 = .ok (.iadd, 1) := zdcg 17 zdT_dX9_readsNumber_51 rfl
theorem dX9_readsNumber_82 : decode cX9_readsNumber 82 = .ok (.bipush 48, 2) := zdcg 18 zdT_dX9_readsNumber_51 rfl
theorem dX9_readsNumber_84 : decode cX9_readsNumber 84 = .ok (.isub, 1) := zdcg 19 zdT_dX9_readsNumber_51 rfl
theorem dX9_readsNumber_85 : decode cX9_readsNumber 85 = .ok (.putfield 370, 3) := zdcg 20 zdT_dX9_readsNumber_51 rfl
theorem dX9_readsNumber_88 : decode cX9_readsNumber 88 = .ok (.aload_n 0, 1) := zdcg 21 zdT_dX9_readsNumber_51 rfl
theorem dX9_readsNumber_89 : decode cX9_readsNumber 89 = .ok (.dup, 1) := zdcg 22 zdT_dX9_readsNumber_51 rfl
theorem dX9_readsNumber_90 : decode cX9_readsNumber 90 = .ok (.getfield 353, 3) := zdcg 23 zdT_dX9_readsNumber_51 rfl
theorem dX9_readsNumber_93 : decode cX9_readsNumber 93 = .ok (.iconst 1, 1) := zdcg 24 zdT_dX9_readsNumber_51 rfl
theorem zdT_dX9_readsNumber_94 : zdch cX9_readsNumber [(94, (.iadd, 1)), (95, (.putfield 353, 3)), (98, (.goto (-80), 3)), (101, (.aload_n 0, 1)), (102, (.getfield 353, 3)), (105, (.aload_n 0, 1)), (106, (.getfield 367, 3)), (109, (.if_icmp .eq 16, 3)), (112, (.aload_n 0, 1)), (113, (.getfield 353, 3)), (116, (.aload_n 0, 1)), (117, (.getfield 367, 3)), (120, (.isub, 1)), (121, (.iconst 4, 1)), (122, (.if_icmp .le 13, 3)), (125, (.aload_n 0, 1)), (126, (.iconst 1, 1)), (127, (.aload_n 0, 1)), (128, (.getfield 367, 3)), (131, (.invokevirtual 377, 3)), (134, (.ireturn, 1)), (135, (.iconst 1, 1)), (136, (.ireturn, 1))] = true := by decide +kernel
theorem dX9_readsNumber_94 : decode cX9_readsNumber 94 = .ok (.iadd, 1) := zdcg 0 zdT_dX9_readsNumber_94 rfl
theorem dX9_readsNumber_95 : decode cX9_readsNumber 95 = .ok (.putfield 353, 3) := zdcg 1 zdT_dX9_readsNumber_94 rfl
theorem dX9_readsNumber_98 : decode cX9_readsNumber 98 = .ok (.goto (-80), 3) := zdcg 2 zdT_dX9_readsNumber_94 rfl
theorem dX9_readsNumber_101 : decode cX9_readsNumber 101 = .ok (.aload_n 0, 1) := zdcg 3 zdT_dX9_readsNumber_94 rfl
theorem dX9_readsNumber_102 : decode cX9_readsNumber 102 = .ok (.getfield 353, 3) := zdcg 4 zdT_dX9_readsNumber_94 rfl
theorem dX9_readsNumber_105 : decode cX9_readsNumber 105 = .ok (.aload_n 0, 1) := zdcg 5 zdT_dX9_readsNumber_94 rfl
theorem dX9_readsNumber_106 : decode cX9_readsNumber 106 = .ok (.getfield 367, 3) := zdcg 6 zdT_dX9_readsNumber_94 rfl
theorem dX9_readsNumber_109 : decode cX9_readsNumber 109 = .ok (.if_icmp .eq 16, 3) := zdcg 7 zdT_dX9_readsNumber_94 rfl
theorem dX9_readsNumber_112 : decode cX9_readsNumber 112 = .ok (.aload_n 0, 1) := zdcg 8 zdT_dX9_readsNumber_94 rfl
theorem dX9_readsNumber_113 : decode cX9_readsNumber 113 = .ok (.getfield 353, 3) := zdcg 9 zdT_dX9_readsNumber_94 rfl
theorem dX9_readsNumber_116 : decode cX9_readsNumber 116 = .ok (.aload_n 0, 1) := zdcg 10 zdT_dX9_readsNumber_94 rfl
theorem dX9_readsNumber_117 : decode cX9_readsNumber 117 = .ok (.getfield 367, 3) := zdcg 11 zdT_dX9_readsNumber_94 rfl
theorem dX9_readsNumber_120 : decode cX9_readsNumber 120 = .ok (.isub, 1) := zdcg 12 zdT_dX9_readsNumber_94 rfl
theorem dX9_readsNumber_121 : decode cX9_readsNumber 121 = .ok (.iconst 4, 1) := zdcg 13 zdT_dX9_readsNumber_94 rfl
theorem dX9_readsNumber_122 : decode cX9_readsNumber 122 = .ok (.if_icmp .le 13, 3) := zdcg 14 zdT_dX9_readsNumber_94 rfl
theorem dX9_readsNumber_125 : decode cX9_readsNumber 125 = .ok (.aload_n 0, 1) := zdcg 15 zdT_dX9_readsNumber_94 rfl
theorem dX9_readsNumber_126 : decode cX9_readsNumber 126 = .ok (.iconst 1, 1) := zdcg 16 zdT_dX9_readsNumber_94 rfl
theorem dX9_readsNumber_127 : decode cX9_readsNumber 127 = .ok (.aload_n 0, 1) := zdcg 17 zdT_dX9_readsNumber_94 rfl
theorem dX9_readsNumber_128 : decode cX9_readsNumber 128 = .ok (.getfield 367, 3) := zdcg 18 zdT_dX9_readsNumber_94 rfl
theorem dX9_readsNumber_131 : decode cX9_readsNumber 131 = .ok (.invokevirtual 377, 3) := zdcg 19 zdT_dX9_readsNumber_94 rfl
theorem dX9_readsNumber_134 : decode cX9_readsNumber 134 = .ok (.ireturn, 1) := zdcg 20 zdT_dX9_readsNumber_94 rfl
theorem dX9_readsNumber_135 : decode cX9_readsNumber 135 = .ok (.iconst 1, 1) := zdcg 21 zdT_dX9_readsNumber_94 rfl
theorem dX9_readsNumber_136 : decode cX9_readsNumber 136 = .ok (.ireturn, 1) := zdcg 22 zdT_dX9_readsNumber_94 rfl
theorem zdT_dX9_readsPart_0 : zdch cX9_readsPart [(0, (.aload_n 0, 1)), (1, (.getfield 353, 3)), (4, (.istore_n 1, 1)), (5, (.aload_n 0, 1)), (6, (.dup, 1)), (7, (.getfield 353, 3)), (10, (.iconst 1, 1)), (11, (.iadd, 1)), (12, (.putfield 353, 3)), (15, (.aload_n 0, 1)), (16, (.iconst 0, 1)), (17, (.putfield 380, 3)), (20, (.iconst 0, 1)), (21, (.istore_n 2, 1)), (22, (.iconst 1, 1)), (23, (.istore_n 3, 1)), (24, (.iload_n 3, 1)), (25, (.ifCond .eq 89, 3)), (28, (.aload_n 0, 1)), (29, (.invokevirtual 383, 3)), (32, (.ifCond .ne 5, 3)), (35, (.iconst (-1), 1)), (36, (.ireturn, 1)), (37, (.iload_n 2, 1)), (38, (.bipush 6, 2))] = true := by decide +kernel
theorem dX9_readsPart_0 : decode cX9_readsPart 0 = .ok (.aload_n 0, 1) := zdcg 0 zdT_dX9_readsPart_0 rfl
theorem dX9_readsPart_1 : decode cX9_readsPart 1 = .ok (.getfield 353, 3) := zdcg 1 zdT_dX9_readsPart_0 rfl
theorem dX9_readsPart_4 : decode cX9_readsPart 4 = .ok (.istore_n 1, 1) := zdcg 2 zdT_dX9_readsPart_0 rfl
theorem dX9_readsPart_5 : decode cX9_readsPart 5 = .ok (.aload_n 0, 1) := zdcg 3 zdT_dX9_readsPart_0 rfl
theorem dX9_readsPart_6 : decode cX9_readsPart 6 = .ok (.dup, 1) := zdcg 4 zdT_dX9_readsPart_0 rfl
theorem dX9_readsPart_7 : decode cX9_readsPart 7 = .ok (.getfield 353, 3) := zdcg 5 zdT_dX9_readsPart_0 rfl
theorem dX9_readsPart_10 : decode cX9_readsPart 10 = .ok (.iconst 1, 1) := zdcg 6 zdT_dX9_readsPart_0 rfl
theorem dX9_readsPart_11 : decode cX9_readsPart 11 = .ok (.iadd, 1) := zdcg 7 zdT_dX9_readsPart_0 rfl
theorem dX9_readsPart_12 : decode cX9_readsPart 12 = .ok (.putfield 353, 3) := zdcg 8 zdT_dX9_readsPart_0 rfl
theorem dX9_readsPart_15 : decode cX9_readsPart 15 = .ok (.aload_n 0, 1) := zdcg 9 zdT_dX9_readsPart_0 rfl
theorem dX9_readsPart_16 : decode cX9_readsPart 16 = .ok (.iconst 0, 1) := zdcg 10 zdT_dX9_readsPart_0 rfl
theorem dX9_readsPart_17 : decode cX9_readsPart 17 = .ok (.putfield 380, 3) := zdcg 11 zdT_dX9_readsPart_0 rfl
theorem dX9_readsPart_20 : decode cX9_readsPart 20 = .ok (.iconst 0, 1) := zdcg 12 zdT_dX9_readsPart_0 rfl
theorem dX9_readsPart_21 : decode cX9_readsPart 21 = .ok (.istore_n 2, 1) := zdcg 13 zdT_dX9_readsPart_0 rfl
theorem dX9_readsPart_22 : decode cX9_readsPart 22 = .ok (.iconst 1, 1) := zdcg 14 zdT_dX9_readsPart_0 rfl
theorem dX9_readsPart_23 : decode cX9_readsPart 23 = .ok (.istore_n 3, 1) := zdcg 15 zdT_dX9_readsPart_0 rfl
theorem dX9_readsPart_24 : decode cX9_readsPart 24 = .ok (.iload_n 3, 1) := zdcg 16 zdT_dX9_readsPart_0 rfl
theorem dX9_readsPart_25 : decode cX9_readsPart 25 = .ok (.ifCond .eq 89, 3) := zdcg 17 zdT_dX9_readsPart_0 rfl
theorem dX9_readsPart_28 : decode cX9_readsPart 28 = .ok (.aload_n 0, 1) := zdcg 18 zdT_dX9_readsPart_0 rfl
theorem dX9_readsPart_29 : decode cX9_readsPart 29 = .ok (.invokevirtual 383, 3) := zdcg 19 zdT_dX9_readsPart_0 rfl
theorem dX9_readsPart_32 : decode cX9_readsPart 32 = .ok (.ifCond .ne 5, 3) := zdcg 20 zdT_dX9_readsPart_0 rfl
theorem dX9_readsPart_35 : decode cX9_readsPart 35 = .ok (.iconst (-1), 1) := zdcg 21 zdT_dX9_readsPart_0 rfl
theorem dX9_readsPart_36 : decode cX9_readsPart 36 = .ok (.ireturn, 1) := zdcg 22 zdT_dX9_readsPart_0 rfl
theorem dX9_readsPart_37 : decode cX9_readsPart 37 = .ok (.iload_n 2, 1) := zdcg 23 zdT_dX9_readsPart_0 rfl
theorem dX9_readsPart_38 : decode cX9_readsPart 38 = .ok (.bipush 6, 2) := zdcg 24 zdT_dX9_readsPart_0 rfl
theorem zdT_dX9_readsPart_40 : zdch cX9_readsPart [(40, (.if_icmp .ge 13, 3)), (43, (.aload_n 0, 1)), (44, (.getfield 143, 3)), (47, (.iload_n 2, 1)), (48, (.aload_n 0, 1)), (49, (.getfield 370, 3)), (52, (.iastore, 1)), (53, (.iinc 2 1, 3)), (56, (.aload_n 0, 1)), (57, (.invokevirtual 364, 3)), (60, (.istore 4, 2)), (62, (.iload 4, 2)), (64, (.bipush 44, 2)), (66, (.if_icmp .eq 22, 3)), (69, (.iload 4, 2)), (71, (.bipush 93, 2)), (73, (.if_icmp .eq 15, 3)), (76, (.aload_n 0, 1)), (77, (.iconst 1, 1)), (78, (.aload_n 0, 1)), (79, (.getfield 353, 3)), (82, (.invokevirtual 377, 3)), (85, (.pop, 1)), (86, (.iconst (-1), 1)), (87, (.ireturn, 1))] = true := by decide +kernel
theorem dX9_readsPart_40 : decode cX9_readsPart 40 = .ok (.if_icmp .ge 13, 3) := zdcg 0 zdT_dX9_readsPart_40 rfl
theorem dX9_readsPart_43 : decode cX9_readsPart 43 = .ok (.aload_n 0, 1) := zdcg 1 zdT_dX9_readsPart_40 rfl
theorem dX9_readsPart_44 : decode cX9_readsPart 44 = .ok (.getfield 143, 3) := zdcg 2 zdT_dX9_readsPart_40 rfl
theorem dX9_readsPart_47 : decode cX9_readsPart 47 = .ok (.iload_n 2, 1) := zdcg 3 zdT_dX9_readsPart_40 rfl
theorem dX9_readsPart_48 : decode cX9_readsPart 48 = .ok (.aload_n 0, 1) := zdcg 4 zdT_dX9_readsPart_40 rfl
theorem dX9_readsPart_49 : decode cX9_readsPart 49 = .ok (.getfield 370, 3) := zdcg 5 zdT_dX9_readsPart_40 rfl
theorem dX9_readsPart_52 : decode cX9_readsPart 52 = .ok (.iastore, 1) := zdcg 6 zdT_dX9_readsPart_40 rfl
theorem dX9_readsPart_53 : decode cX9_readsPart 53 = .ok (.iinc 2 1, 3) := zdcg 7 zdT_dX9_readsPart_40 rfl
theorem dX9_readsPart_56 : decode cX9_readsPart 56 = .ok (.aload_n 0, 1) := zdcg 8 zdT_dX9_readsPart_40 rfl
theorem dX9_readsPart_57 : decode cX9_readsPart 57 = .ok (.invokevirtual 364, 3) := zdcg 9 zdT_dX9_readsPart_40 rfl
theorem dX9_readsPart_60 : decode cX9_readsPart 60 = .ok (.istore 4, 2) := zdcg 10 zdT_dX9_readsPart_40 rfl
theorem dX9_readsPart_62 : decode cX9_readsPart 62 = .ok (.iload 4, 2) := zdcg 11 zdT_dX9_readsPart_40 rfl
theorem dX9_readsPart_64 : decode cX9_readsPart 64 = .ok (.bipush 44, 2) := zdcg 12 zdT_dX9_readsPart_40 rfl
theorem dX9_readsPart_66 : decode cX9_readsPart 66 = .ok (.if_icmp .eq 22, 3) := zdcg 13 zdT_dX9_readsPart_40 rfl
theorem dX9_readsPart_69 : decode cX9_readsPart 69 = .ok (.iload 4, 2) := zdcg 14 zdT_dX9_readsPart_40 rfl
theorem dX9_readsPart_71 : decode cX9_readsPart 71 = .ok (.bipush 93, 2) := zdcg 15 zdT_dX9_readsPart_40 rfl
theorem dX9_readsPart_73 : decode cX9_readsPart 73 = .ok (.if_icmp .eq 15, 3) := zdcg 16 zdT_dX9_readsPart_40 rfl
theorem dX9_readsPart_76 : decode cX9_readsPart 76 = .ok (.aload_n 0, 1) := zdcg 17 zdT_dX9_readsPart_40 rfl
theorem dX9_readsPart_77 : decode cX9_readsPart 77 = .ok (.iconst 1, 1) := zdcg 18 zdT_dX9_readsPart_40 rfl
theorem dX9_readsPart_78 : decode cX9_readsPart 78 = .ok (.aload_n 0, 1) := zdcg 19 zdT_dX9_readsPart_40 rfl
theorem dX9_readsPart_79 : decode cX9_readsPart 79 = .ok (.getfield 353, 3) := zdcg 20 zdT_dX9_readsPart_40 rfl
theorem dX9_readsPart_82 : decode cX9_readsPart 82 = .ok (.invokevirtual 377, 3) := zdcg 21 zdT_dX9_readsPart_40 rfl
theorem dX9_readsPart_85 : decode cX9_readsPart 85 = .ok (.pop, 1) := zdcg 22 zdT_dX9_readsPart_40 rfl
theorem dX9_readsPart_86 : decode cX9_readsPart 86 = .ok (.iconst (-1), 1) := zdcg 23 zdT_dX9_readsPart_40 rfl
theorem dX9_readsPart_87 : decode cX9_readsPart 87 = .ok (.ireturn, 1) := zdcg 24 zdT_dX9_readsPart_40 rfl
theorem zdT_dX9_readsPart_88 : zdch cX9_readsPart [(88, (.aload_n 0, 1)), (89, (.dup, 1)), (90, (.getfield 353, 3)), (93, (.iconst 1, 1)), (94, (.iadd, 1)), (95, (.putfield 353, 3)), (98, (.iload 4, 2)), (100, (.bipush 44, 2)), (102, (.if_icmp .ne 7, 3)), (105, (.iconst 1, 1)), (106, (.goto 4, 3)), (109, (.iconst 0, 1)), (110, (.istore_n 3, 1)), (111, (.goto (-87), 3)), (114, (.aload_n 0, 1)), (115, (.iload_n 2, 1)), (116, (.putfield 380, 3)), (119, (.iconst 0, 1)), (120, (.istore 4, 2)), (122, (.iload 4, 2)), (124, (.aload_n 0, 1)), (125, (.getfield 153, 3)), (128, (.if_icmp .ge 21, 3)), (131, (.aload_n 0, 1)), (132, (.iload 4, 2))] = true := by decide +kernel
theorem dX9_readsPart_88 : decode cX9_readsPart 88 = .ok (.aload_n 0, 1) := zdcg 0 zdT_dX9_readsPart_88 rfl
theorem dX9_readsPart_89 : decode cX9_readsPart 89 = .ok (.dup, 1) := zdcg 1 zdT_dX9_readsPart_88 rfl
theorem dX9_readsPart_90 : decode cX9_readsPart 90 = .ok (.getfield 353, 3) := zdcg 2 zdT_dX9_readsPart_88 rfl
theorem dX9_readsPart_93 : decode cX9_readsPart 93 = .ok (.iconst 1, 1) := zdcg 3 zdT_dX9_readsPart_88 rfl
theorem dX9_readsPart_94 : decode cX9_readsPart 94 = .ok (.iadd, 1) := zdcg 4 zdT_dX9_readsPart_88 rfl
theorem dX9_readsPart_95 : decode cX9_readsPart 95 = .ok (.putfield 353, 3) := zdcg 5 zdT_dX9_readsPart_88 rfl
theorem dX9_readsPart_98 : decode cX9_readsPart 98 = .ok (.iload 4, 2) := zdcg 6 zdT_dX9_readsPart_88 rfl
theorem dX9_readsPart_100 : decode cX9_readsPart 100 = .ok (.bipush 44, 2) := zdcg 7 zdT_dX9_readsPart_88 rfl
theorem dX9_readsPart_102 : decode cX9_readsPart 102 = .ok (.if_icmp .ne 7, 3) := zdcg 8 zdT_dX9_readsPart_88 rfl
theorem dX9_readsPart_105 : decode cX9_readsPart 105 = .ok (.iconst 1, 1) := zdcg 9 zdT_dX9_readsPart_88 rfl
theorem dX9_readsPart_106 : decode cX9_readsPart 106 = .ok (.goto 4, 3) := zdcg 10 zdT_dX9_readsPart_88 rfl
theorem dX9_readsPart_109 : decode cX9_readsPart 109 = .ok (.iconst 0, 1) := zdcg 11 zdT_dX9_readsPart_88 rfl
theorem dX9_readsPart_110 : decode cX9_readsPart 110 = .ok (.istore_n 3, 1) := zdcg 12 zdT_dX9_readsPart_88 rfl
theorem dX9_readsPart_111 : decode cX9_readsPart 111 = .ok (.goto (-87), 3) := zdcg 13 zdT_dX9_readsPart_88 rfl
theorem dX9_readsPart_114 : decode cX9_readsPart 114 = .ok (.aload_n 0, 1) := zdcg 14 zdT_dX9_readsPart_88 rfl
theorem dX9_readsPart_115 : decode cX9_readsPart 115 = .ok (.iload_n 2, 1) := zdcg 15 zdT_dX9_readsPart_88 rfl
theorem dX9_readsPart_116 : decode cX9_readsPart 116 = .ok (.putfield 380, 3) := zdcg 16 zdT_dX9_readsPart_88 rfl
theorem dX9_readsPart_119 : decode cX9_readsPart 119 = .ok (.iconst 0, 1) := zdcg 17 zdT_dX9_readsPart_88 rfl
theorem dX9_readsPart_120 : decode cX9_readsPart 120 = .ok (.istore 4, 2) := zdcg 18 zdT_dX9_readsPart_88 rfl
theorem dX9_readsPart_122 : decode cX9_readsPart 122 = .ok (.iload 4, 2) := zdcg 19 zdT_dX9_readsPart_88 rfl
theorem dX9_readsPart_124 : decode cX9_readsPart 124 = .ok (.aload_n 0, 1) := zdcg 20 zdT_dX9_readsPart_88 rfl
theorem dX9_readsPart_125 : decode cX9_readsPart 125 = .ok (.getfield 153, 3) := zdcg 21 zdT_dX9_readsPart_88 rfl
theorem dX9_readsPart_128 : decode cX9_readsPart 128 = .ok (.if_icmp .ge 21, 3) := zdcg 22 zdT_dX9_readsPart_88 rfl
theorem dX9_readsPart_131 : decode cX9_readsPart 131 = .ok (.aload_n 0, 1) := zdcg 23 zdT_dX9_readsPart_88 rfl
theorem dX9_readsPart_132 : decode cX9_readsPart 132 = .ok (.iload 4, 2) := zdcg 24 zdT_dX9_readsPart_88 rfl
theorem zdT_dX9_readsPart_134 : zdch cX9_readsPart [(134, (.invokevirtual 387, 3)), (137, (.ifCond .eq 6, 3)), (140, (.iload 4, 2)), (142, (.ireturn, 1)), (143, (.iinc 4 1, 3)), (146, (.goto (-24), 3)), (149, (.aload_n 0, 1)), (150, (.iconst 2, 1)), (151, (.iload_n 1, 1)), (152, (.invokevirtual 377, 3)), (155, (.pop, 1)), (156, (.iconst (-1), 1)), (157, (.ireturn, 1))] = true := by decide +kernel
theorem dX9_readsPart_134 : decode cX9_readsPart 134 = .ok (.invokevirtual 387, 3) := zdcg 0 zdT_dX9_readsPart_134 rfl
theorem dX9_readsPart_137 : decode cX9_readsPart 137 = .ok (.ifCond .eq 6, 3) := zdcg 1 zdT_dX9_readsPart_134 rfl
theorem dX9_readsPart_140 : decode cX9_readsPart 140 = .ok (.iload 4, 2) := zdcg 2 zdT_dX9_readsPart_134 rfl
theorem dX9_readsPart_142 : decode cX9_readsPart 142 = .ok (.ireturn, 1) := zdcg 3 zdT_dX9_readsPart_134 rfl
theorem dX9_readsPart_143 : decode cX9_readsPart 143 = .ok (.iinc 4 1, 3) := zdcg 4 zdT_dX9_readsPart_134 rfl
theorem dX9_readsPart_146 : decode cX9_readsPart 146 = .ok (.goto (-24), 3) := zdcg 5 zdT_dX9_readsPart_134 rfl
theorem dX9_readsPart_149 : decode cX9_readsPart 149 = .ok (.aload_n 0, 1) := zdcg 6 zdT_dX9_readsPart_134 rfl
theorem dX9_readsPart_150 : decode cX9_readsPart 150 = .ok (.iconst 2, 1) := zdcg 7 zdT_dX9_readsPart_134 rfl
theorem dX9_readsPart_151 : decode cX9_readsPart 151 = .ok (.iload_n 1, 1) := zdcg 8 zdT_dX9_readsPart_134 rfl
theorem dX9_readsPart_152 : decode cX9_readsPart 152 = .ok (.invokevirtual 377, 3) := zdcg 9 zdT_dX9_readsPart_134 rfl
theorem dX9_readsPart_155 : decode cX9_readsPart 155 = .ok (.pop, 1) := zdcg 10 zdT_dX9_readsPart_134 rfl
theorem dX9_readsPart_156 : decode cX9_readsPart 156 = .ok (.iconst (-1), 1) := zdcg 11 zdT_dX9_readsPart_134 rfl
theorem dX9_readsPart_157 : decode cX9_readsPart 157 = .ok (.ireturn, 1) := zdcg 12 zdT_dX9_readsPart_134 rfl
theorem zdT_dX9_isListed_0 : zdch cX9_isListed [(0, (.aload_n 0, 1)), (1, (.getfield 380, 3)), (4, (.aload_n 0, 1)), (5, (.getfield 13, 3)), (8, (.iload_n 1, 1)), (9, (.iaload, 1)), (10, (.if_icmp .eq 5, 3)), (13, (.iconst 0, 1)), (14, (.ireturn, 1)), (15, (.iconst 0, 1)), (16, (.istore_n 2, 1)), (17, (.iload_n 2, 1)), (18, (.aload_n 0, 1)), (19, (.getfield 380, 3)), (22, (.if_icmp .ge 26, 3)), (25, (.aload_n 0, 1)), (26, (.getfield 143, 3)), (29, (.iload_n 2, 1)), (30, (.iaload, 1)), (31, (.aload_n 0, 1)), (32, (.iload_n 1, 1)), (33, (.iload_n 2, 1)), (34, (.invokevirtual 175, 3)), (37, (.if_icmp .eq 5, 3)), (40, (.iconst 0, 1))] = true := by decide +kernel
theorem dX9_isListed_0 : decode cX9_isListed 0 = .ok (.aload_n 0, 1) := zdcg 0 zdT_dX9_isListed_0 rfl
theorem dX9_isListed_1 : decode cX9_isListed 1 = .ok (.getfield 380, 3) := zdcg 1 zdT_dX9_isListed_0 rfl
theorem dX9_isListed_4 : decode cX9_isListed 4 = .ok (.aload_n 0, 1) := zdcg 2 zdT_dX9_isListed_0 rfl
theorem dX9_isListed_5 : decode cX9_isListed 5 = .ok (.getfield 13, 3) := zdcg 3 zdT_dX9_isListed_0 rfl
theorem dX9_isListed_8 : decode cX9_isListed 8 = .ok (.iload_n 1, 1) := zdcg 4 zdT_dX9_isListed_0 rfl
theorem dX9_isListed_9 : decode cX9_isListed 9 = .ok (.iaload, 1) := zdcg 5 zdT_dX9_isListed_0 rfl
theorem dX9_isListed_10 : decode cX9_isListed 10 = .ok (.if_icmp .eq 5, 3) := zdcg 6 zdT_dX9_isListed_0 rfl
theorem dX9_isListed_13 : decode cX9_isListed 13 = .ok (.iconst 0, 1) := zdcg 7 zdT_dX9_isListed_0 rfl
theorem dX9_isListed_14 : decode cX9_isListed 14 = .ok (.ireturn, 1) := zdcg 8 zdT_dX9_isListed_0 rfl
theorem dX9_isListed_15 : decode cX9_isListed 15 = .ok (.iconst 0, 1) := zdcg 9 zdT_dX9_isListed_0 rfl
theorem dX9_isListed_16 : decode cX9_isListed 16 = .ok (.istore_n 2, 1) := zdcg 10 zdT_dX9_isListed_0 rfl
theorem dX9_isListed_17 : decode cX9_isListed 17 = .ok (.iload_n 2, 1) := zdcg 11 zdT_dX9_isListed_0 rfl
theorem dX9_isListed_18 : decode cX9_isListed 18 = .ok (.aload_n 0, 1) := zdcg 12 zdT_dX9_isListed_0 rfl
theorem dX9_isListed_19 : decode cX9_isListed 19 = .ok (.getfield 380, 3) := zdcg 13 zdT_dX9_isListed_0 rfl
theorem dX9_isListed_22 : decode cX9_isListed 22 = .ok (.if_icmp .ge 26, 3) := zdcg 14 zdT_dX9_isListed_0 rfl
theorem dX9_isListed_25 : decode cX9_isListed 25 = .ok (.aload_n 0, 1) := zdcg 15 zdT_dX9_isListed_0 rfl
theorem dX9_isListed_26 : decode cX9_isListed 26 = .ok (.getfield 143, 3) := zdcg 16 zdT_dX9_isListed_0 rfl
theorem dX9_isListed_29 : decode cX9_isListed 29 = .ok (.iload_n 2, 1) := zdcg 17 zdT_dX9_isListed_0 rfl
theorem dX9_isListed_30 : decode cX9_isListed 30 = .ok (.iaload, 1) := zdcg 18 zdT_dX9_isListed_0 rfl
theorem dX9_isListed_31 : decode cX9_isListed 31 = .ok (.aload_n 0, 1) := zdcg 19 zdT_dX9_isListed_0 rfl
theorem dX9_isListed_32 : decode cX9_isListed 32 = .ok (.iload_n 1, 1) := zdcg 20 zdT_dX9_isListed_0 rfl
theorem dX9_isListed_33 : decode cX9_isListed 33 = .ok (.iload_n 2, 1) := zdcg 21 zdT_dX9_isListed_0 rfl
theorem dX9_isListed_34 : decode cX9_isListed 34 = .ok (.invokevirtual 175, 3) := zdcg 22 zdT_dX9_isListed_0 rfl
theorem dX9_isListed_37 : decode cX9_isListed 37 = .ok (.if_icmp .eq 5, 3) := zdcg 23 zdT_dX9_isListed_0 rfl
theorem dX9_isListed_40 : decode cX9_isListed 40 = .ok (.iconst 0, 1) := zdcg 24 zdT_dX9_isListed_0 rfl
theorem zdT_dX9_isListed_41 : zdch cX9_isListed [(41, (.ireturn, 1)), (42, (.iinc 2 1, 3)), (45, (.goto (-28), 3)), (48, (.iconst 1, 1)), (49, (.ireturn, 1))] = true := by decide +kernel
theorem dX9_isListed_41 : decode cX9_isListed 41 = .ok (.ireturn, 1) := zdcg 0 zdT_dX9_isListed_41 rfl
theorem dX9_isListed_42 : decode cX9_isListed 42 = .ok (.iinc 2 1, 3) := zdcg 1 zdT_dX9_isListed_41 rfl
theorem dX9_isListed_45 : decode cX9_isListed 45 = .ok (.goto (-28), 3) := zdcg 2 zdT_dX9_isListed_41 rfl
theorem dX9_isListed_48 : decode cX9_isListed 48 = .ok (.iconst 1, 1) := zdcg 3 zdT_dX9_isListed_41 rfl
theorem dX9_isListed_49 : decode cX9_isListed 49 = .ok (.ireturn, 1) := zdcg 4 zdT_dX9_isListed_41 rfl
theorem zdT_dX9_fillings_0 : zdch cX9_fillings [(0, (.iload_n 3, 1)), (1, (.aload_n 0, 1)), (2, (.getfield 13, 3)), (5, (.iload_n 2, 1)), (6, (.iaload, 1)), (7, (.if_icmp .ne 5, 3)), (10, (.iconst 1, 1)), (11, (.ireturn, 1)), (12, (.iconst 0, 1)), (13, (.istore 4, 2)), (15, (.iconst 0, 1)), (16, (.istore 5, 2)), (18, (.iload 5, 2)), (20, (.aload_n 0, 1)), (21, (.getfield 13, 3)), (24, (.iload_n 1, 1)), (25, (.iaload, 1)), (26, (.if_icmp .ge 74, 3)), (29, (.aload_n 0, 1)), (30, (.getfield 146, 3)), (33, (.iload 5, 2)), (35, (.iaload, 1)), (36, (.aload_n 0, 1)), (37, (.iload_n 2, 1)), (38, (.iload_n 3, 1))] = true := by decide +kernel
theorem dX9_fillings_0 : decode cX9_fillings 0 = .ok (.iload_n 3, 1) := zdcg 0 zdT_dX9_fillings_0 rfl
theorem dX9_fillings_1 : decode cX9_fillings 1 = .ok (.aload_n 0, 1) := zdcg 1 zdT_dX9_fillings_0 rfl
theorem dX9_fillings_2 : decode cX9_fillings 2 = .ok (.getfield 13, 3) := zdcg 2 zdT_dX9_fillings_0 rfl
theorem dX9_fillings_5 : decode cX9_fillings 5 = .ok (.iload_n 2, 1) := zdcg 3 zdT_dX9_fillings_0 rfl
theorem dX9_fillings_6 : decode cX9_fillings 6 = .ok (.iaload, 1) := zdcg 4 zdT_dX9_fillings_0 rfl
theorem dX9_fillings_7 : decode cX9_fillings 7 = .ok (.if_icmp .ne 5, 3) := zdcg 5 zdT_dX9_fillings_0 rfl
theorem dX9_fillings_10 : decode cX9_fillings 10 = .ok (.iconst 1, 1) := zdcg 6 zdT_dX9_fillings_0 rfl
theorem dX9_fillings_11 : decode cX9_fillings 11 = .ok (.ireturn, 1) := zdcg 7 zdT_dX9_fillings_0 rfl
theorem dX9_fillings_12 : decode cX9_fillings 12 = .ok (.iconst 0, 1) := zdcg 8 zdT_dX9_fillings_0 rfl
theorem dX9_fillings_13 : decode cX9_fillings 13 = .ok (.istore 4, 2) := zdcg 9 zdT_dX9_fillings_0 rfl
theorem dX9_fillings_15 : decode cX9_fillings 15 = .ok (.iconst 0, 1) := zdcg 10 zdT_dX9_fillings_0 rfl
theorem dX9_fillings_16 : decode cX9_fillings 16 = .ok (.istore 5, 2) := zdcg 11 zdT_dX9_fillings_0 rfl
theorem dX9_fillings_18 : decode cX9_fillings 18 = .ok (.iload 5, 2) := zdcg 12 zdT_dX9_fillings_0 rfl
theorem dX9_fillings_20 : decode cX9_fillings 20 = .ok (.aload_n 0, 1) := zdcg 13 zdT_dX9_fillings_0 rfl
theorem dX9_fillings_21 : decode cX9_fillings 21 = .ok (.getfield 13, 3) := zdcg 14 zdT_dX9_fillings_0 rfl
theorem dX9_fillings_24 : decode cX9_fillings 24 = .ok (.iload_n 1, 1) := zdcg 15 zdT_dX9_fillings_0 rfl
theorem dX9_fillings_25 : decode cX9_fillings 25 = .ok (.iaload, 1) := zdcg 16 zdT_dX9_fillings_0 rfl
theorem dX9_fillings_26 : decode cX9_fillings 26 = .ok (.if_icmp .ge 74, 3) := zdcg 17 zdT_dX9_fillings_0 rfl
theorem dX9_fillings_29 : decode cX9_fillings 29 = .ok (.aload_n 0, 1) := zdcg 18 zdT_dX9_fillings_0 rfl
theorem dX9_fillings_30 : decode cX9_fillings 30 = .ok (.getfield 146, 3) := zdcg 19 zdT_dX9_fillings_0 rfl
theorem dX9_fillings_33 : decode cX9_fillings 33 = .ok (.iload 5, 2) := zdcg 20 zdT_dX9_fillings_0 rfl
theorem dX9_fillings_35 : decode cX9_fillings 35 = .ok (.iaload, 1) := zdcg 21 zdT_dX9_fillings_0 rfl
theorem dX9_fillings_36 : decode cX9_fillings 36 = .ok (.aload_n 0, 1) := zdcg 22 zdT_dX9_fillings_0 rfl
theorem dX9_fillings_37 : decode cX9_fillings 37 = .ok (.iload_n 2, 1) := zdcg 23 zdT_dX9_fillings_0 rfl
theorem dX9_fillings_38 : decode cX9_fillings 38 = .ok (.iload_n 3, 1) := zdcg 24 zdT_dX9_fillings_0 rfl
theorem zdT_dX9_fillings_39 : zdch cX9_fillings [(39, (.invokevirtual 175, 3)), (42, (.if_icmp .ge 6, 3)), (45, (.goto 49, 3)), (48, (.aload_n 0, 1)), (49, (.getfield 146, 3)), (52, (.iload 5, 2)), (54, (.dup2, 1)), (55, (.iaload, 1)), (56, (.aload_n 0, 1)), (57, (.iload_n 2, 1)), (58, (.iload_n 3, 1)), (59, (.invokevirtual 175, 3)), (62, (.isub, 1)), (63, (.iastore, 1)), (64, (.iload 4, 2)), (66, (.aload_n 0, 1)), (67, (.iload_n 1, 1)), (68, (.iload_n 2, 1)), (69, (.iload_n 3, 1)), (70, (.iconst 1, 1)), (71, (.iadd, 1)), (72, (.invokevirtual 390, 3)), (75, (.iadd, 1)), (76, (.istore 4, 2)), (78, (.aload_n 0, 1))] = true := by decide +kernel
theorem dX9_fillings_39 : decode cX9_fillings 39 = .ok (.invokevirtual 175, 3) := zdcg 0 zdT_dX9_fillings_39 rfl
theorem dX9_fillings_42 : decode cX9_fillings 42 = .ok (.if_icmp .ge 6, 3) := zdcg 1 zdT_dX9_fillings_39 rfl
theorem dX9_fillings_45 : decode cX9_fillings 45 = .ok (.goto 49, 3) := zdcg 2 zdT_dX9_fillings_39 rfl
theorem dX9_fillings_48 : decode cX9_fillings 48 = .ok (.aload_n 0, 1) := zdcg 3 zdT_dX9_fillings_39 rfl
theorem dX9_fillings_49 : decode cX9_fillings 49 = .ok (.getfield 146, 3) := zdcg 4 zdT_dX9_fillings_39 rfl
theorem dX9_fillings_52 : decode cX9_fillings 52 = .ok (.iload 5, 2) := zdcg 5 zdT_dX9_fillings_39 rfl
theorem dX9_fillings_54 : decode cX9_fillings 54 = .ok (.dup2, 1) := zdcg 6 zdT_dX9_fillings_39 rfl
theorem dX9_fillings_55 : decode cX9_fillings 55 = .ok (.iaload, 1) := zdcg 7 zdT_dX9_fillings_39 rfl
theorem dX9_fillings_56 : decode cX9_fillings 56 = .ok (.aload_n 0, 1) := zdcg 8 zdT_dX9_fillings_39 rfl
theorem dX9_fillings_57 : decode cX9_fillings 57 = .ok (.iload_n 2, 1) := zdcg 9 zdT_dX9_fillings_39 rfl
theorem dX9_fillings_58 : decode cX9_fillings 58 = .ok (.iload_n 3, 1) := zdcg 10 zdT_dX9_fillings_39 rfl
theorem dX9_fillings_59 : decode cX9_fillings 59 = .ok (.invokevirtual 175, 3) := zdcg 11 zdT_dX9_fillings_39 rfl
theorem dX9_fillings_62 : decode cX9_fillings 62 = .ok (.isub, 1) := zdcg 12 zdT_dX9_fillings_39 rfl
theorem dX9_fillings_63 : decode cX9_fillings 63 = .ok (.iastore, 1) := zdcg 13 zdT_dX9_fillings_39 rfl
theorem dX9_fillings_64 : decode cX9_fillings 64 = .ok (.iload 4, 2) := zdcg 14 zdT_dX9_fillings_39 rfl
theorem dX9_fillings_66 : decode cX9_fillings 66 = .ok (.aload_n 0, 1) := zdcg 15 zdT_dX9_fillings_39 rfl
theorem dX9_fillings_67 : decode cX9_fillings 67 = .ok (.iload_n 1, 1) := zdcg 16 zdT_dX9_fillings_39 rfl
theorem dX9_fillings_68 : decode cX9_fillings 68 = .ok (.iload_n 2, 1) := zdcg 17 zdT_dX9_fillings_39 rfl
theorem dX9_fillings_69 : decode cX9_fillings 69 = .ok (.iload_n 3, 1) := zdcg 18 zdT_dX9_fillings_39 rfl
theorem dX9_fillings_70 : decode cX9_fillings 70 = .ok (.iconst 1, 1) := zdcg 19 zdT_dX9_fillings_39 rfl
theorem dX9_fillings_71 : decode cX9_fillings 71 = .ok (.iadd, 1) := zdcg 20 zdT_dX9_fillings_39 rfl
theorem dX9_fillings_72 : decode cX9_fillings 72 = .ok (.invokevirtual 390, 3) := zdcg 21 zdT_dX9_fillings_39 rfl
theorem dX9_fillings_75 : decode cX9_fillings 75 = .ok (.iadd, 1) := zdcg 22 zdT_dX9_fillings_39 rfl
theorem dX9_fillings_76 : decode cX9_fillings 76 = .ok (.istore 4, 2) := zdcg 23 zdT_dX9_fillings_39 rfl
theorem dX9_fillings_78 : decode cX9_fillings 78 = .ok (.aload_n 0, 1) := zdcg 24 zdT_dX9_fillings_39 rfl
theorem zdT_dX9_fillings_79 : zdch cX9_fillings [(79, (.getfield 146, 3)), (82, (.iload 5, 2)), (84, (.dup2, 1)), (85, (.iaload, 1)), (86, (.aload_n 0, 1)), (87, (.iload_n 2, 1)), (88, (.iload_n 3, 1)), (89, (.invokevirtual 175, 3)), (92, (.iadd, 1)), (93, (.iastore, 1)), (94, (.iinc 5 1, 3)), (97, (.goto (-79), 3)), (100, (.iload 4, 2)), (102, (.ireturn, 1))] = true := by decide +kernel
theorem dX9_fillings_79 : decode cX9_fillings 79 = .ok (.getfield 146, 3) := zdcg 0 zdT_dX9_fillings_79 rfl
theorem dX9_fillings_82 : decode cX9_fillings 82 = .ok (.iload 5, 2) := zdcg 1 zdT_dX9_fillings_79 rfl
theorem dX9_fillings_84 : decode cX9_fillings 84 = .ok (.dup2, 1) := zdcg 2 zdT_dX9_fillings_79 rfl
theorem dX9_fillings_85 : decode cX9_fillings 85 = .ok (.iaload, 1) := zdcg 3 zdT_dX9_fillings_79 rfl
theorem dX9_fillings_86 : decode cX9_fillings 86 = .ok (.aload_n 0, 1) := zdcg 4 zdT_dX9_fillings_79 rfl
theorem dX9_fillings_87 : decode cX9_fillings 87 = .ok (.iload_n 2, 1) := zdcg 5 zdT_dX9_fillings_79 rfl
theorem dX9_fillings_88 : decode cX9_fillings 88 = .ok (.iload_n 3, 1) := zdcg 6 zdT_dX9_fillings_79 rfl
theorem dX9_fillings_89 : decode cX9_fillings 89 = .ok (.invokevirtual 175, 3) := zdcg 7 zdT_dX9_fillings_79 rfl
theorem dX9_fillings_92 : decode cX9_fillings 92 = .ok (.iadd, 1) := zdcg 8 zdT_dX9_fillings_79 rfl
theorem dX9_fillings_93 : decode cX9_fillings 93 = .ok (.iastore, 1) := zdcg 9 zdT_dX9_fillings_79 rfl
theorem dX9_fillings_94 : decode cX9_fillings 94 = .ok (.iinc 5 1, 3) := zdcg 10 zdT_dX9_fillings_79 rfl
theorem dX9_fillings_97 : decode cX9_fillings 97 = .ok (.goto (-79), 3) := zdcg 11 zdT_dX9_fillings_79 rfl
theorem dX9_fillings_100 : decode cX9_fillings 100 = .ok (.iload 4, 2) := zdcg 12 zdT_dX9_fillings_79 rfl
theorem dX9_fillings_102 : decode cX9_fillings 102 = .ok (.ireturn, 1) := zdcg 13 zdT_dX9_fillings_79 rfl
theorem zdT_dX9_readsNamed_0 : zdch cX9_readsNamed [(0, (.aload_n 0, 1)), (1, (.getfield 353, 3)), (4, (.istore_n 2, 1)), (5, (.iload_n 1, 1)), (6, (.bipush 91, 2)), (8, (.if_icmp .eq 32, 3)), (11, (.aload_n 0, 1)), (12, (.dup, 1)), (13, (.getfield 353, 3)), (16, (.iconst 1, 1)), (17, (.iadd, 1)), (18, (.putfield 353, 3)), (21, (.aload_n 0, 1)), (22, (.invokevirtual 364, 3)), (25, (.bipush 91, 2)), (27, (.if_icmp .eq 13, 3)), (30, (.aload_n 0, 1)), (31, (.iconst 1, 1)), (32, (.aload_n 0, 1)), (33, (.getfield 353, 3)), (36, (.invokevirtual 377, 3)), (39, (.ireturn, 1)), (40, (.aload_n 0, 1)), (41, (.invokevirtual 393, 3)), (44, (.istore_n 3, 1))] = true := by decide +kernel
theorem dX9_readsNamed_0 : decode cX9_readsNamed 0 = .ok (.aload_n 0, 1) := zdcg 0 zdT_dX9_readsNamed_0 rfl
theorem dX9_readsNamed_1 : decode cX9_readsNamed 1 = .ok (.getfield 353, 3) := zdcg 1 zdT_dX9_readsNamed_0 rfl
theorem dX9_readsNamed_4 : decode cX9_readsNamed 4 = .ok (.istore_n 2, 1) := zdcg 2 zdT_dX9_readsNamed_0 rfl
theorem dX9_readsNamed_5 : decode cX9_readsNamed 5 = .ok (.iload_n 1, 1) := zdcg 3 zdT_dX9_readsNamed_0 rfl
theorem dX9_readsNamed_6 : decode cX9_readsNamed 6 = .ok (.bipush 91, 2) := zdcg 4 zdT_dX9_readsNamed_0 rfl
theorem dX9_readsNamed_8 : decode cX9_readsNamed 8 = .ok (.if_icmp .eq 32, 3) := zdcg 5 zdT_dX9_readsNamed_0 rfl
theorem dX9_readsNamed_11 : decode cX9_readsNamed 11 = .ok (.aload_n 0, 1) := zdcg 6 zdT_dX9_readsNamed_0 rfl
theorem dX9_readsNamed_12 : decode cX9_readsNamed 12 = .ok (.dup, 1) := zdcg 7 zdT_dX9_readsNamed_0 rfl
theorem dX9_readsNamed_13 : decode cX9_readsNamed 13 = .ok (.getfield 353, 3) := zdcg 8 zdT_dX9_readsNamed_0 rfl
theorem dX9_readsNamed_16 : decode cX9_readsNamed 16 = .ok (.iconst 1, 1) := zdcg 9 zdT_dX9_readsNamed_0 rfl
theorem dX9_readsNamed_17 : decode cX9_readsNamed 17 = .ok (.iadd, 1) := zdcg 10 zdT_dX9_readsNamed_0 rfl
theorem dX9_readsNamed_18 : decode cX9_readsNamed 18 = .ok (.putfield 353, 3) := zdcg 11 zdT_dX9_readsNamed_0 rfl
theorem dX9_readsNamed_21 : decode cX9_readsNamed 21 = .ok (.aload_n 0, 1) := zdcg 12 zdT_dX9_readsNamed_0 rfl
theorem dX9_readsNamed_22 : decode cX9_readsNamed 22 = .ok (.invokevirtual 364, 3) := zdcg 13 zdT_dX9_readsNamed_0 rfl
theorem dX9_readsNamed_25 : decode cX9_readsNamed 25 = .ok (.bipush 91, 2) := zdcg 14 zdT_dX9_readsNamed_0 rfl
theorem dX9_readsNamed_27 : decode cX9_readsNamed 27 = .ok (.if_icmp .eq 13, 3) := zdcg 15 zdT_dX9_readsNamed_0 rfl
theorem dX9_readsNamed_30 : decode cX9_readsNamed 30 = .ok (.aload_n 0, 1) := zdcg 16 zdT_dX9_readsNamed_0 rfl
theorem dX9_readsNamed_31 : decode cX9_readsNamed 31 = .ok (.iconst 1, 1) := zdcg 17 zdT_dX9_readsNamed_0 rfl
theorem dX9_readsNamed_32 : decode cX9_readsNamed 32 = .ok (.aload_n 0, 1) := zdcg 18 zdT_dX9_readsNamed_0 rfl
theorem dX9_readsNamed_33 : decode cX9_readsNamed 33 = .ok (.getfield 353, 3) := zdcg 19 zdT_dX9_readsNamed_0 rfl
theorem dX9_readsNamed_36 : decode cX9_readsNamed 36 = .ok (.invokevirtual 377, 3) := zdcg 20 zdT_dX9_readsNamed_0 rfl
theorem dX9_readsNamed_39 : decode cX9_readsNamed 39 = .ok (.ireturn, 1) := zdcg 21 zdT_dX9_readsNamed_0 rfl
theorem dX9_readsNamed_40 : decode cX9_readsNamed 40 = .ok (.aload_n 0, 1) := zdcg 22 zdT_dX9_readsNamed_0 rfl
theorem dX9_readsNamed_41 : decode cX9_readsNamed 41 = .ok (.invokevirtual 393, 3) := zdcg 23 zdT_dX9_readsNamed_0 rfl
theorem dX9_readsNamed_44 : decode cX9_readsNamed 44 = .ok (.istore_n 3, 1) := zdcg 24 zdT_dX9_readsNamed_0 rfl
theorem zdT_dX9_readsNamed_45 : zdch cX9_readsNamed [(45, (.iload_n 3, 1)), (46, (.iconst (-1), 1)), (47, (.if_icmp .ne 5, 3)), (50, (.iconst 0, 1)), (51, (.ireturn, 1)), (52, (.iload_n 1, 1)), (53, (.bipush 68, 2)), (55, (.if_icmp .eq 9, 3)), (58, (.iload_n 1, 1)), (59, (.bipush 80, 2)), (61, (.if_icmp .ne 19, 3)), (64, (.aload_n 0, 1)), (65, (.getfield 22, 3)), (68, (.iload_n 3, 1)), (69, (.baload, 1)), (70, (.ifCond .ne 10, 3)), (73, (.aload_n 0, 1)), (74, (.iconst 3, 1)), (75, (.iload_n 2, 1)), (76, (.invokevirtual 377, 3)), (79, (.ireturn, 1)), (80, (.iconst 0, 1)), (81, (.istore 4, 2)), (83, (.iload 4, 2)), (85, (.aload_n 0, 1))] = true := by decide +kernel
theorem dX9_readsNamed_45 : decode cX9_readsNamed 45 = .ok (.iload_n 3, 1) := zdcg 0 zdT_dX9_readsNamed_45 rfl
theorem dX9_readsNamed_46 : decode cX9_readsNamed 46 = .ok (.iconst (-1), 1) := zdcg 1 zdT_dX9_readsNamed_45 rfl
theorem dX9_readsNamed_47 : decode cX9_readsNamed 47 = .ok (.if_icmp .ne 5, 3) := zdcg 2 zdT_dX9_readsNamed_45 rfl
theorem dX9_readsNamed_50 : decode cX9_readsNamed 50 = .ok (.iconst 0, 1) := zdcg 3 zdT_dX9_readsNamed_45 rfl
theorem dX9_readsNamed_51 : decode cX9_readsNamed 51 = .ok (.ireturn, 1) := zdcg 4 zdT_dX9_readsNamed_45 rfl
theorem dX9_readsNamed_52 : decode cX9_readsNamed 52 = .ok (.iload_n 1, 1) := zdcg 5 zdT_dX9_readsNamed_45 rfl
theorem dX9_readsNamed_53 : decode cX9_readsNamed 53 = .ok (.bipush 68, 2) := zdcg 6 zdT_dX9_readsNamed_45 rfl
theorem dX9_readsNamed_55 : decode cX9_readsNamed 55 = .ok (.if_icmp .eq 9, 3) := zdcg 7 zdT_dX9_readsNamed_45 rfl
theorem dX9_readsNamed_58 : decode cX9_readsNamed 58 = .ok (.iload_n 1, 1) := zdcg 8 zdT_dX9_readsNamed_45 rfl
theorem dX9_readsNamed_59 : decode cX9_readsNamed 59 = .ok (.bipush 80, 2) := zdcg 9 zdT_dX9_readsNamed_45 rfl
theorem dX9_readsNamed_61 : decode cX9_readsNamed 61 = .ok (.if_icmp .ne 19, 3) := zdcg 10 zdT_dX9_readsNamed_45 rfl
theorem dX9_readsNamed_64 : decode cX9_readsNamed 64 = .ok (.aload_n 0, 1) := zdcg 11 zdT_dX9_readsNamed_45 rfl
theorem dX9_readsNamed_65 : decode cX9_readsNamed 65 = .ok (.getfield 22, 3) := zdcg 12 zdT_dX9_readsNamed_45 rfl
theorem dX9_readsNamed_68 : decode cX9_readsNamed 68 = .ok (.iload_n 3, 1) := zdcg 13 zdT_dX9_readsNamed_45 rfl
theorem dX9_readsNamed_69 : decode cX9_readsNamed 69 = .ok (.baload, 1) := zdcg 14 zdT_dX9_readsNamed_45 rfl
theorem dX9_readsNamed_70 : decode cX9_readsNamed 70 = .ok (.ifCond .ne 10, 3) := zdcg 15 zdT_dX9_readsNamed_45 rfl
theorem dX9_readsNamed_73 : decode cX9_readsNamed 73 = .ok (.aload_n 0, 1) := zdcg 16 zdT_dX9_readsNamed_45 rfl
theorem dX9_readsNamed_74 : decode cX9_readsNamed 74 = .ok (.iconst 3, 1) := zdcg 17 zdT_dX9_readsNamed_45 rfl
theorem dX9_readsNamed_75 : decode cX9_readsNamed 75 = .ok (.iload_n 2, 1) := zdcg 18 zdT_dX9_readsNamed_45 rfl
theorem dX9_readsNamed_76 : decode cX9_readsNamed 76 = .ok (.invokevirtual 377, 3) := zdcg 19 zdT_dX9_readsNamed_45 rfl
theorem dX9_readsNamed_79 : decode cX9_readsNamed 79 = .ok (.ireturn, 1) := zdcg 20 zdT_dX9_readsNamed_45 rfl
theorem dX9_readsNamed_80 : decode cX9_readsNamed 80 = .ok (.iconst 0, 1) := zdcg 21 zdT_dX9_readsNamed_45 rfl
theorem dX9_readsNamed_81 : decode cX9_readsNamed 81 = .ok (.istore 4, 2) := zdcg 22 zdT_dX9_readsNamed_45 rfl
theorem dX9_readsNamed_83 : decode cX9_readsNamed 83 = .ok (.iload 4, 2) := zdcg 23 zdT_dX9_readsNamed_45 rfl
theorem dX9_readsNamed_85 : decode cX9_readsNamed 85 = .ok (.aload_n 0, 1) := zdcg 24 zdT_dX9_readsNamed_45 rfl
theorem zdT_dX9_readsNamed_86 : zdch cX9_readsNamed [(86, (.getfield 153, 3)), (89, (.if_icmp .ge 135, 3)), (92, (.iconst 0, 1)), (93, (.istore 5, 2)), (95, (.iload 5, 2)), (97, (.bipush 6, 2)), (99, (.if_icmp .ge 23, 3)), (102, (.aload_n 0, 1)), (103, (.getfield 146, 3)), (106, (.iload 5, 2)), (108, (.aload_n 0, 1)), (109, (.iload_n 3, 1)), (110, (.iload 5, 2)), (112, (.invokevirtual 175, 3)), (115, (.iastore, 1)), (116, (.iinc 5 1, 3)), (119, (.goto (-24), 3)), (122, (.aload_n 0, 1)), (123, (.getfield 140, 3)), (126, (.iload 4, 2)), (128, (.iload_n 1, 1)), (129, (.bipush 91, 2)), (131, (.if_icmp .ne 19, 3)), (134, (.aload_n 0, 1)), (135, (.getfield 38, 3))] = true := by decide +kernel
theorem dX9_readsNamed_86 : decode cX9_readsNamed 86 = .ok (.getfield 153, 3) := zdcg 0 zdT_dX9_readsNamed_86 rfl
theorem dX9_readsNamed_89 : decode cX9_readsNamed 89 = .ok (.if_icmp .ge 135, 3) := zdcg 1 zdT_dX9_readsNamed_86 rfl
theorem dX9_readsNamed_92 : decode cX9_readsNamed 92 = .ok (.iconst 0, 1) := zdcg 2 zdT_dX9_readsNamed_86 rfl
theorem dX9_readsNamed_93 : decode cX9_readsNamed 93 = .ok (.istore 5, 2) := zdcg 3 zdT_dX9_readsNamed_86 rfl
theorem dX9_readsNamed_95 : decode cX9_readsNamed 95 = .ok (.iload 5, 2) := zdcg 4 zdT_dX9_readsNamed_86 rfl
theorem dX9_readsNamed_97 : decode cX9_readsNamed 97 = .ok (.bipush 6, 2) := zdcg 5 zdT_dX9_readsNamed_86 rfl
theorem dX9_readsNamed_99 : decode cX9_readsNamed 99 = .ok (.if_icmp .ge 23, 3) := zdcg 6 zdT_dX9_readsNamed_86 rfl
theorem dX9_readsNamed_102 : decode cX9_readsNamed 102 = .ok (.aload_n 0, 1) := zdcg 7 zdT_dX9_readsNamed_86 rfl
theorem dX9_readsNamed_103 : decode cX9_readsNamed 103 = .ok (.getfield 146, 3) := zdcg 8 zdT_dX9_readsNamed_86 rfl
theorem dX9_readsNamed_106 : decode cX9_readsNamed 106 = .ok (.iload 5, 2) := zdcg 9 zdT_dX9_readsNamed_86 rfl
theorem dX9_readsNamed_108 : decode cX9_readsNamed 108 = .ok (.aload_n 0, 1) := zdcg 10 zdT_dX9_readsNamed_86 rfl
theorem dX9_readsNamed_109 : decode cX9_readsNamed 109 = .ok (.iload_n 3, 1) := zdcg 11 zdT_dX9_readsNamed_86 rfl
theorem dX9_readsNamed_110 : decode cX9_readsNamed 110 = .ok (.iload 5, 2) := zdcg 12 zdT_dX9_readsNamed_86 rfl
theorem dX9_readsNamed_112 : decode cX9_readsNamed 112 = .ok (.invokevirtual 175, 3) := zdcg 13 zdT_dX9_readsNamed_86 rfl
theorem dX9_readsNamed_115 : decode cX9_readsNamed 115 = .ok (.iastore, 1) := zdcg 14 zdT_dX9_readsNamed_86 rfl
theorem dX9_readsNamed_116 : decode cX9_readsNamed 116 = .ok (.iinc 5 1, 3) := zdcg 15 zdT_dX9_readsNamed_86 rfl
theorem dX9_readsNamed_119 : decode cX9_readsNamed 119 = .ok (.goto (-24), 3) := zdcg 16 zdT_dX9_readsNamed_86 rfl
theorem dX9_readsNamed_122 : decode cX9_readsNamed 122 = .ok (.aload_n 0, 1) := zdcg 17 zdT_dX9_readsNamed_86 rfl
theorem dX9_readsNamed_123 : decode cX9_readsNamed 123 = .ok (.getfield 140, 3) := zdcg 18 zdT_dX9_readsNamed_86 rfl
theorem dX9_readsNamed_126 : decode cX9_readsNamed 126 = .ok (.iload 4, 2) := zdcg 19 zdT_dX9_readsNamed_86 rfl
theorem dX9_readsNamed_128 : decode cX9_readsNamed 128 = .ok (.iload_n 1, 1) := zdcg 20 zdT_dX9_readsNamed_86 rfl
theorem dX9_readsNamed_129 : decode cX9_readsNamed 129 = .ok (.bipush 91, 2) := zdcg 21 zdT_dX9_readsNamed_86 rfl
theorem dX9_readsNamed_131 : decode cX9_readsNamed 131 = .ok (.if_icmp .ne 19, 3) := zdcg 22 zdT_dX9_readsNamed_86 rfl
theorem dX9_readsNamed_134 : decode cX9_readsNamed 134 = .ok (.aload_n 0, 1) := zdcg 23 zdT_dX9_readsNamed_86 rfl
theorem dX9_readsNamed_135 : decode cX9_readsNamed 135 = .ok (.getfield 38, 3) := zdcg 24 zdT_dX9_readsNamed_86 rfl
theorem zdT_dX9_readsNamed_138 : zdch cX9_readsNamed [(138, (.bipush 11, 2)), (140, (.iload_n 3, 1)), (141, (.imul, 1)), (142, (.iload 4, 2)), (144, (.iadd, 1)), (145, (.iaload, 1)), (146, (.i2l, 1)), (147, (.goto 70, 3)), (150, (.iload_n 1, 1)), (151, (.bipush 80, 2)), (153, (.if_icmp .ne 19, 3)), (156, (.aload_n 0, 1)), (157, (.getfield 105, 3)), (160, (.bipush 11, 2)), (162, (.iload_n 3, 1)), (163, (.imul, 1)), (164, (.iload 4, 2)), (166, (.iadd, 1)), (167, (.iaload, 1)), (168, (.i2l, 1)), (169, (.goto 48, 3)), (172, (.iload_n 1, 1)), (173, (.bipush 77, 2)), (175, (.if_icmp .ne 15, 3)), (178, (.aload_n 0, 1))] = true := by decide +kernel
theorem dX9_readsNamed_138 : decode cX9_readsNamed 138 = .ok (.bipush 11, 2) := zdcg 0 zdT_dX9_readsNamed_138 rfl
theorem dX9_readsNamed_140 : decode cX9_readsNamed 140 = .ok (.iload_n 3, 1) := zdcg 1 zdT_dX9_readsNamed_138 rfl
theorem dX9_readsNamed_141 : decode cX9_readsNamed 141 = .ok (.imul, 1) := zdcg 2 zdT_dX9_readsNamed_138 rfl
theorem dX9_readsNamed_142 : decode cX9_readsNamed 142 = .ok (.iload 4, 2) := zdcg 3 zdT_dX9_readsNamed_138 rfl
theorem dX9_readsNamed_144 : decode cX9_readsNamed 144 = .ok (.iadd, 1) := zdcg 4 zdT_dX9_readsNamed_138 rfl
theorem dX9_readsNamed_145 : decode cX9_readsNamed 145 = .ok (.iaload, 1) := zdcg 5 zdT_dX9_readsNamed_138 rfl
theorem dX9_readsNamed_146 : decode cX9_readsNamed 146 = .ok (.i2l, 1) := zdcg 6 zdT_dX9_readsNamed_138 rfl
theorem dX9_readsNamed_147 : decode cX9_readsNamed 147 = .ok (.goto 70, 3) := zdcg 7 zdT_dX9_readsNamed_138 rfl
theorem dX9_readsNamed_150 : decode cX9_readsNamed 150 = .ok (.iload_n 1, 1) := zdcg 8 zdT_dX9_readsNamed_138 rfl
theorem dX9_readsNamed_151 : decode cX9_readsNamed 151 = .ok (.bipush 80, 2) := zdcg 9 zdT_dX9_readsNamed_138 rfl
theorem dX9_readsNamed_153 : decode cX9_readsNamed 153 = .ok (.if_icmp .ne 19, 3) := zdcg 10 zdT_dX9_readsNamed_138 rfl
theorem dX9_readsNamed_156 : decode cX9_readsNamed 156 = .ok (.aload_n 0, 1) := zdcg 11 zdT_dX9_readsNamed_138 rfl
theorem dX9_readsNamed_157 : decode cX9_readsNamed 157 = .ok (.getfield 105, 3) := zdcg 12 zdT_dX9_readsNamed_138 rfl
theorem dX9_readsNamed_160 : decode cX9_readsNamed 160 = .ok (.bipush 11, 2) := zdcg 13 zdT_dX9_readsNamed_138 rfl
theorem dX9_readsNamed_162 : decode cX9_readsNamed 162 = .ok (.iload_n 3, 1) := zdcg 14 zdT_dX9_readsNamed_138 rfl
theorem dX9_readsNamed_163 : decode cX9_readsNamed 163 = .ok (.imul, 1) := zdcg 15 zdT_dX9_readsNamed_138 rfl
theorem dX9_readsNamed_164 : decode cX9_readsNamed 164 = .ok (.iload 4, 2) := zdcg 16 zdT_dX9_readsNamed_138 rfl
theorem dX9_readsNamed_166 : decode cX9_readsNamed 166 = .ok (.iadd, 1) := zdcg 17 zdT_dX9_readsNamed_138 rfl
theorem dX9_readsNamed_167 : decode cX9_readsNamed 167 = .ok (.iaload, 1) := zdcg 18 zdT_dX9_readsNamed_138 rfl
theorem dX9_readsNamed_168 : decode cX9_readsNamed 168 = .ok (.i2l, 1) := zdcg 19 zdT_dX9_readsNamed_138 rfl
theorem dX9_readsNamed_169 : decode cX9_readsNamed 169 = .ok (.goto 48, 3) := zdcg 20 zdT_dX9_readsNamed_138 rfl
theorem dX9_readsNamed_172 : decode cX9_readsNamed 172 = .ok (.iload_n 1, 1) := zdcg 21 zdT_dX9_readsNamed_138 rfl
theorem dX9_readsNamed_173 : decode cX9_readsNamed 173 = .ok (.bipush 77, 2) := zdcg 22 zdT_dX9_readsNamed_138 rfl
theorem dX9_readsNamed_175 : decode cX9_readsNamed 175 = .ok (.if_icmp .ne 15, 3) := zdcg 23 zdT_dX9_readsNamed_138 rfl
theorem dX9_readsNamed_178 : decode cX9_readsNamed 178 = .ok (.aload_n 0, 1) := zdcg 24 zdT_dX9_readsNamed_138 rfl
theorem zdT_dX9_readsNamed_179 : zdch cX9_readsNamed [(179, (.iload_n 3, 1)), (180, (.iload 4, 2)), (182, (.iconst 0, 1)), (183, (.invokevirtual 390, 3)), (186, (.i2l, 1)), (187, (.goto 30, 3)), (190, (.aload_n 0, 1)), (191, (.getfield 26, 3)), (194, (.iload 4, 2)), (196, (.baload, 1)), (197, (.ifCond .eq 19, 3)), (200, (.aload_n 0, 1)), (201, (.getfield 96, 3)), (204, (.bipush 11, 2)), (206, (.iload_n 3, 1)), (207, (.imul, 1)), (208, (.iload 4, 2)), (210, (.iadd, 1)), (211, (.iaload, 1)), (212, (.i2l, 1)), (213, (.goto 4, 3)), (216, (.lconst 0, 1)), (217, (.lastore, 1)), (218, (.iinc 4 1, 3)), (221, (.goto (-138), 3))] = true := by decide +kernel
theorem dX9_readsNamed_179 : decode cX9_readsNamed 179 = .ok (.iload_n 3, 1) := zdcg 0 zdT_dX9_readsNamed_179 rfl
theorem dX9_readsNamed_180 : decode cX9_readsNamed 180 = .ok (.iload 4, 2) := zdcg 1 zdT_dX9_readsNamed_179 rfl
theorem dX9_readsNamed_182 : decode cX9_readsNamed 182 = .ok (.iconst 0, 1) := zdcg 2 zdT_dX9_readsNamed_179 rfl
theorem dX9_readsNamed_183 : decode cX9_readsNamed 183 = .ok (.invokevirtual 390, 3) := zdcg 3 zdT_dX9_readsNamed_179 rfl
theorem dX9_readsNamed_186 : decode cX9_readsNamed 186 = .ok (.i2l, 1) := zdcg 4 zdT_dX9_readsNamed_179 rfl
theorem dX9_readsNamed_187 : decode cX9_readsNamed 187 = .ok (.goto 30, 3) := zdcg 5 zdT_dX9_readsNamed_179 rfl
theorem dX9_readsNamed_190 : decode cX9_readsNamed 190 = .ok (.aload_n 0, 1) := zdcg 6 zdT_dX9_readsNamed_179 rfl
theorem dX9_readsNamed_191 : decode cX9_readsNamed 191 = .ok (.getfield 26, 3) := zdcg 7 zdT_dX9_readsNamed_179 rfl
theorem dX9_readsNamed_194 : decode cX9_readsNamed 194 = .ok (.iload 4, 2) := zdcg 8 zdT_dX9_readsNamed_179 rfl
theorem dX9_readsNamed_196 : decode cX9_readsNamed 196 = .ok (.baload, 1) := zdcg 9 zdT_dX9_readsNamed_179 rfl
theorem dX9_readsNamed_197 : decode cX9_readsNamed 197 = .ok (.ifCond .eq 19, 3) := zdcg 10 zdT_dX9_readsNamed_179 rfl
theorem dX9_readsNamed_200 : decode cX9_readsNamed 200 = .ok (.aload_n 0, 1) := zdcg 11 zdT_dX9_readsNamed_179 rfl
theorem dX9_readsNamed_201 : decode cX9_readsNamed 201 = .ok (.getfield 96, 3) := zdcg 12 zdT_dX9_readsNamed_179 rfl
theorem dX9_readsNamed_204 : decode cX9_readsNamed 204 = .ok (.bipush 11, 2) := zdcg 13 zdT_dX9_readsNamed_179 rfl
theorem dX9_readsNamed_206 : decode cX9_readsNamed 206 = .ok (.iload_n 3, 1) := zdcg 14 zdT_dX9_readsNamed_179 rfl
theorem dX9_readsNamed_207 : decode cX9_readsNamed 207 = .ok (.imul, 1) := zdcg 15 zdT_dX9_readsNamed_179 rfl
theorem dX9_readsNamed_208 : decode cX9_readsNamed 208 = .ok (.iload 4, 2) := zdcg 16 zdT_dX9_readsNamed_179 rfl
theorem dX9_readsNamed_210 : decode cX9_readsNamed 210 = .ok (.iadd, 1) := zdcg 17 zdT_dX9_readsNamed_179 rfl
theorem dX9_readsNamed_211 : decode cX9_readsNamed 211 = .ok (.iaload, 1) := zdcg 18 zdT_dX9_readsNamed_179 rfl
theorem dX9_readsNamed_212 : decode cX9_readsNamed 212 = .ok (.i2l, 1) := zdcg 19 zdT_dX9_readsNamed_179 rfl
theorem dX9_readsNamed_213 : decode cX9_readsNamed 213 = .ok (.goto 4, 3) := zdcg 20 zdT_dX9_readsNamed_179 rfl
theorem dX9_readsNamed_216 : decode cX9_readsNamed 216 = .ok (.lconst 0, 1) := zdcg 21 zdT_dX9_readsNamed_179 rfl
theorem dX9_readsNamed_217 : decode cX9_readsNamed 217 = .ok (.lastore, 1) := zdcg 22 zdT_dX9_readsNamed_179 rfl
theorem dX9_readsNamed_218 : decode cX9_readsNamed 218 = .ok (.iinc 4 1, 3) := zdcg 23 zdT_dX9_readsNamed_179 rfl
theorem dX9_readsNamed_221 : decode cX9_readsNamed 221 = .ok (.goto (-138), 3) := zdcg 24 zdT_dX9_readsNamed_179 rfl
theorem zdT_dX9_readsNamed_224 : zdch cX9_readsNamed [(224, (.iconst 1, 1)), (225, (.ireturn, 1))] = true := by decide +kernel
theorem dX9_readsNamed_224 : decode cX9_readsNamed 224 = .ok (.iconst 1, 1) := zdcg 0 zdT_dX9_readsNamed_224 rfl
theorem dX9_readsNamed_225 : decode cX9_readsNamed 225 = .ok (.ireturn, 1) := zdcg 1 zdT_dX9_readsNamed_224 rfl
theorem zdT_dX9_readsSlot_0 : zdch cX9_readsSlot [(0, (.aload_n 0, 1)), (1, (.dup, 1)), (2, (.getfield 353, 3)), (5, (.iconst 1, 1)), (6, (.iadd, 1)), (7, (.putfield 353, 3)), (10, (.aload_n 0, 1)), (11, (.invokevirtual 383, 3)), (14, (.ifCond .ne 5, 3)), (17, (.iconst 0, 1)), (18, (.ireturn, 1)), (19, (.aload_n 0, 1)), (20, (.getfield 370, 3)), (23, (.invokestatic 319, 3)), (26, (.ifCond .ne 13, 3)), (29, (.aload_n 0, 1)), (30, (.iconst 4, 1)), (31, (.aload_n 0, 1)), (32, (.getfield 367, 3)), (35, (.invokevirtual 377, 3)), (38, (.ireturn, 1)), (39, (.iconst 0, 1)), (40, (.istore_n 1, 1)), (41, (.iload_n 1, 1)), (42, (.aload_n 0, 1))] = true := by decide +kernel
theorem dX9_readsSlot_0 : decode cX9_readsSlot 0 = .ok (.aload_n 0, 1) := zdcg 0 zdT_dX9_readsSlot_0 rfl
theorem dX9_readsSlot_1 : decode cX9_readsSlot 1 = .ok (.dup, 1) := zdcg 1 zdT_dX9_readsSlot_0 rfl
theorem dX9_readsSlot_2 : decode cX9_readsSlot 2 = .ok (.getfield 353, 3) := zdcg 2 zdT_dX9_readsSlot_0 rfl
theorem dX9_readsSlot_5 : decode cX9_readsSlot 5 = .ok (.iconst 1, 1) := zdcg 3 zdT_dX9_readsSlot_0 rfl
theorem dX9_readsSlot_6 : decode cX9_readsSlot 6 = .ok (.iadd, 1) := zdcg 4 zdT_dX9_readsSlot_0 rfl
theorem dX9_readsSlot_7 : decode cX9_readsSlot 7 = .ok (.putfield 353, 3) := zdcg 5 zdT_dX9_readsSlot_0 rfl
theorem dX9_readsSlot_10 : decode cX9_readsSlot 10 = .ok (.aload_n 0, 1) := zdcg 6 zdT_dX9_readsSlot_0 rfl
theorem dX9_readsSlot_11 : decode cX9_readsSlot 11 = .ok (.invokevirtual 383, 3) := zdcg 7 zdT_dX9_readsSlot_0 rfl
theorem dX9_readsSlot_14 : decode cX9_readsSlot 14 = .ok (.ifCond .ne 5, 3) := zdcg 8 zdT_dX9_readsSlot_0 rfl
theorem dX9_readsSlot_17 : decode cX9_readsSlot 17 = .ok (.iconst 0, 1) := zdcg 9 zdT_dX9_readsSlot_0 rfl
theorem dX9_readsSlot_18 : decode cX9_readsSlot 18 = .ok (.ireturn, 1) := zdcg 10 zdT_dX9_readsSlot_0 rfl
theorem dX9_readsSlot_19 : decode cX9_readsSlot 19 = .ok (.aload_n 0, 1) := zdcg 11 zdT_dX9_readsSlot_0 rfl
theorem dX9_readsSlot_20 : decode cX9_readsSlot 20 = .ok (.getfield 370, 3) := zdcg 12 zdT_dX9_readsSlot_0 rfl
theorem dX9_readsSlot_23 : decode cX9_readsSlot 23 = .ok (.invokestatic 319, 3) := zdcg 13 zdT_dX9_readsSlot_0 rfl
theorem dX9_readsSlot_26 : decode cX9_readsSlot 26 = .ok (.ifCond .ne 13, 3) := zdcg 14 zdT_dX9_readsSlot_0 rfl
theorem dX9_readsSlot_29 : decode cX9_readsSlot 29 = .ok (.aload_n 0, 1) := zdcg 15 zdT_dX9_readsSlot_0 rfl
theorem dX9_readsSlot_30 : decode cX9_readsSlot 30 = .ok (.iconst 4, 1) := zdcg 16 zdT_dX9_readsSlot_0 rfl
theorem dX9_readsSlot_31 : decode cX9_readsSlot 31 = .ok (.aload_n 0, 1) := zdcg 17 zdT_dX9_readsSlot_0 rfl
theorem dX9_readsSlot_32 : decode cX9_readsSlot 32 = .ok (.getfield 367, 3) := zdcg 18 zdT_dX9_readsSlot_0 rfl
theorem dX9_readsSlot_35 : decode cX9_readsSlot 35 = .ok (.invokevirtual 377, 3) := zdcg 19 zdT_dX9_readsSlot_0 rfl
theorem dX9_readsSlot_38 : decode cX9_readsSlot 38 = .ok (.ireturn, 1) := zdcg 20 zdT_dX9_readsSlot_0 rfl
theorem dX9_readsSlot_39 : decode cX9_readsSlot 39 = .ok (.iconst 0, 1) := zdcg 21 zdT_dX9_readsSlot_0 rfl
theorem dX9_readsSlot_40 : decode cX9_readsSlot 40 = .ok (.istore_n 1, 1) := zdcg 22 zdT_dX9_readsSlot_0 rfl
theorem dX9_readsSlot_41 : decode cX9_readsSlot 41 = .ok (.iload_n 1, 1) := zdcg 23 zdT_dX9_readsSlot_0 rfl
theorem dX9_readsSlot_42 : decode cX9_readsSlot 42 = .ok (.aload_n 0, 1) := zdcg 24 zdT_dX9_readsSlot_0 rfl
theorem zdT_dX9_readsSlot_43 : zdch cX9_readsSlot [(43, (.getfield 153, 3)), (46, (.if_icmp .ge 29, 3)), (49, (.aload_n 0, 1)), (50, (.getfield 140, 3)), (53, (.iload_n 1, 1)), (54, (.aload_n 0, 1)), (55, (.getfield 115, 3)), (58, (.bipush 11, 2)), (60, (.aload_n 0, 1)), (61, (.getfield 370, 3)), (64, (.imul, 1)), (65, (.iload_n 1, 1)), (66, (.iadd, 1)), (67, (.laload, 1)), (68, (.lastore, 1)), (69, (.iinc 1 1, 3)), (72, (.goto (-31), 3)), (75, (.iconst 1, 1)), (76, (.ireturn, 1))] = true := by decide +kernel
theorem dX9_readsSlot_43 : decode cX9_readsSlot 43 = .ok (.getfield 153, 3) := zdcg 0 zdT_dX9_readsSlot_43 rfl
theorem dX9_readsSlot_46 : decode cX9_readsSlot 46 = .ok (.if_icmp .ge 29, 3) := zdcg 1 zdT_dX9_readsSlot_43 rfl
theorem dX9_readsSlot_49 : decode cX9_readsSlot 49 = .ok (.aload_n 0, 1) := zdcg 2 zdT_dX9_readsSlot_43 rfl
theorem dX9_readsSlot_50 : decode cX9_readsSlot 50 = .ok (.getfield 140, 3) := zdcg 3 zdT_dX9_readsSlot_43 rfl
theorem dX9_readsSlot_53 : decode cX9_readsSlot 53 = .ok (.iload_n 1, 1) := zdcg 4 zdT_dX9_readsSlot_43 rfl
theorem dX9_readsSlot_54 : decode cX9_readsSlot 54 = .ok (.aload_n 0, 1) := zdcg 5 zdT_dX9_readsSlot_43 rfl
theorem dX9_readsSlot_55 : decode cX9_readsSlot 55 = .ok (.getfield 115, 3) := zdcg 6 zdT_dX9_readsSlot_43 rfl
theorem dX9_readsSlot_58 : decode cX9_readsSlot 58 = .ok (.bipush 11, 2) := zdcg 7 zdT_dX9_readsSlot_43 rfl
theorem dX9_readsSlot_60 : decode cX9_readsSlot 60 = .ok (.aload_n 0, 1) := zdcg 8 zdT_dX9_readsSlot_43 rfl
theorem dX9_readsSlot_61 : decode cX9_readsSlot 61 = .ok (.getfield 370, 3) := zdcg 9 zdT_dX9_readsSlot_43 rfl
theorem dX9_readsSlot_64 : decode cX9_readsSlot 64 = .ok (.imul, 1) := zdcg 10 zdT_dX9_readsSlot_43 rfl
theorem dX9_readsSlot_65 : decode cX9_readsSlot 65 = .ok (.iload_n 1, 1) := zdcg 11 zdT_dX9_readsSlot_43 rfl
theorem dX9_readsSlot_66 : decode cX9_readsSlot 66 = .ok (.iadd, 1) := zdcg 12 zdT_dX9_readsSlot_43 rfl
theorem dX9_readsSlot_67 : decode cX9_readsSlot 67 = .ok (.laload, 1) := zdcg 13 zdT_dX9_readsSlot_43 rfl
theorem dX9_readsSlot_68 : decode cX9_readsSlot 68 = .ok (.lastore, 1) := zdcg 14 zdT_dX9_readsSlot_43 rfl
theorem dX9_readsSlot_69 : decode cX9_readsSlot 69 = .ok (.iinc 1 1, 3) := zdcg 15 zdT_dX9_readsSlot_43 rfl
theorem dX9_readsSlot_72 : decode cX9_readsSlot 72 = .ok (.goto (-31), 3) := zdcg 16 zdT_dX9_readsSlot_43 rfl
theorem dX9_readsSlot_75 : decode cX9_readsSlot 75 = .ok (.iconst 1, 1) := zdcg 17 zdT_dX9_readsSlot_43 rfl
theorem dX9_readsSlot_76 : decode cX9_readsSlot 76 = .ok (.ireturn, 1) := zdcg 18 zdT_dX9_readsSlot_43 rfl
theorem zdT_dX9_readsInner_0 : zdch cX9_readsInner [(0, (.aload_n 0, 1)), (1, (.getfield 396, 3)), (4, (.iconst 4, 1)), (5, (.if_icmp .ne 13, 3)), (8, (.aload_n 0, 1)), (9, (.iconst 5, 1)), (10, (.aload_n 0, 1)), (11, (.getfield 353, 3)), (14, (.invokevirtual 377, 3)), (17, (.ireturn, 1)), (18, (.aload_n 0, 1)), (19, (.dup, 1)), (20, (.getfield 353, 3)), (23, (.iconst 1, 1)), (24, (.iadd, 1)), (25, (.putfield 353, 3)), (28, (.aload_n 0, 1)), (29, (.dup, 1)), (30, (.getfield 396, 3)), (33, (.iconst 1, 1)), (34, (.iadd, 1)), (35, (.putfield 396, 3)), (38, (.aload_n 0, 1)), (39, (.invokevirtual 399, 3)), (42, (.ifCond .ne 5, 3))] = true := by decide +kernel
theorem dX9_readsInner_0 : decode cX9_readsInner 0 = .ok (.aload_n 0, 1) := zdcg 0 zdT_dX9_readsInner_0 rfl
theorem dX9_readsInner_1 : decode cX9_readsInner 1 = .ok (.getfield 396, 3) := zdcg 1 zdT_dX9_readsInner_0 rfl
theorem dX9_readsInner_4 : decode cX9_readsInner 4 = .ok (.iconst 4, 1) := zdcg 2 zdT_dX9_readsInner_0 rfl
theorem dX9_readsInner_5 : decode cX9_readsInner 5 = .ok (.if_icmp .ne 13, 3) := zdcg 3 zdT_dX9_readsInner_0 rfl
theorem dX9_readsInner_8 : decode cX9_readsInner 8 = .ok (.aload_n 0, 1) := zdcg 4 zdT_dX9_readsInner_0 rfl
theorem dX9_readsInner_9 : decode cX9_readsInner 9 = .ok (.iconst 5, 1) := zdcg 5 zdT_dX9_readsInner_0 rfl
theorem dX9_readsInner_10 : decode cX9_readsInner 10 = .ok (.aload_n 0, 1) := zdcg 6 zdT_dX9_readsInner_0 rfl
theorem dX9_readsInner_11 : decode cX9_readsInner 11 = .ok (.getfield 353, 3) := zdcg 7 zdT_dX9_readsInner_0 rfl
theorem dX9_readsInner_14 : decode cX9_readsInner 14 = .ok (.invokevirtual 377, 3) := zdcg 8 zdT_dX9_readsInner_0 rfl
theorem dX9_readsInner_17 : decode cX9_readsInner 17 = .ok (.ireturn, 1) := zdcg 9 zdT_dX9_readsInner_0 rfl
theorem dX9_readsInner_18 : decode cX9_readsInner 18 = .ok (.aload_n 0, 1) := zdcg 10 zdT_dX9_readsInner_0 rfl
theorem dX9_readsInner_19 : decode cX9_readsInner 19 = .ok (.dup, 1) := zdcg 11 zdT_dX9_readsInner_0 rfl
theorem dX9_readsInner_20 : decode cX9_readsInner 20 = .ok (.getfield 353, 3) := zdcg 12 zdT_dX9_readsInner_0 rfl
theorem dX9_readsInner_23 : decode cX9_readsInner 23 = .ok (.iconst 1, 1) := zdcg 13 zdT_dX9_readsInner_0 rfl
theorem dX9_readsInner_24 : decode cX9_readsInner 24 = .ok (.iadd, 1) := zdcg 14 zdT_dX9_readsInner_0 rfl
theorem dX9_readsInner_25 : decode cX9_readsInner 25 = .ok (.putfield 353, 3) := zdcg 15 zdT_dX9_readsInner_0 rfl
theorem dX9_readsInner_28 : decode cX9_readsInner 28 = .ok (.aload_n 0, 1) := zdcg 16 zdT_dX9_readsInner_0 rfl
theorem dX9_readsInner_29 : decode cX9_readsInner 29 = .ok (.dup, 1) := zdcg 17 zdT_dX9_readsInner_0 rfl
theorem dX9_readsInner_30 : decode cX9_readsInner 30 = .ok (.getfield 396, 3) := zdcg 18 zdT_dX9_readsInner_0 rfl
theorem dX9_readsInner_33 : decode cX9_readsInner 33 = .ok (.iconst 1, 1) := zdcg 19 zdT_dX9_readsInner_0 rfl
theorem dX9_readsInner_34 : decode cX9_readsInner 34 = .ok (.iadd, 1) := zdcg 20 zdT_dX9_readsInner_0 rfl
theorem dX9_readsInner_35 : decode cX9_readsInner 35 = .ok (.putfield 396, 3) := zdcg 21 zdT_dX9_readsInner_0 rfl
theorem dX9_readsInner_38 : decode cX9_readsInner 38 = .ok (.aload_n 0, 1) := zdcg 22 zdT_dX9_readsInner_0 rfl
theorem dX9_readsInner_39 : decode cX9_readsInner 39 = .ok (.invokevirtual 399, 3) := zdcg 23 zdT_dX9_readsInner_0 rfl
theorem dX9_readsInner_42 : decode cX9_readsInner 42 = .ok (.ifCond .ne 5, 3) := zdcg 24 zdT_dX9_readsInner_0 rfl
theorem zdT_dX9_readsInner_45 : zdch cX9_readsInner [(45, (.iconst 0, 1)), (46, (.ireturn, 1)), (47, (.aload_n 0, 1)), (48, (.invokevirtual 364, 3)), (51, (.bipush 41, 2)), (53, (.if_icmp .eq 13, 3)), (56, (.aload_n 0, 1)), (57, (.iconst 1, 1)), (58, (.aload_n 0, 1)), (59, (.getfield 353, 3)), (62, (.invokevirtual 377, 3)), (65, (.ireturn, 1)), (66, (.aload_n 0, 1)), (67, (.dup, 1)), (68, (.getfield 353, 3)), (71, (.iconst 1, 1)), (72, (.iadd, 1)), (73, (.putfield 353, 3)), (76, (.iconst 0, 1)), (77, (.istore_n 1, 1)), (78, (.iload_n 1, 1)), (79, (.aload_n 0, 1)), (80, (.getfield 153, 3)), (83, (.if_icmp .ge 29, 3)), (86, (.aload_n 0, 1))] = true := by decide +kernel
theorem dX9_readsInner_45 : decode cX9_readsInner 45 = .ok (.iconst 0, 1) := zdcg 0 zdT_dX9_readsInner_45 rfl
theorem dX9_readsInner_46 : decode cX9_readsInner 46 = .ok (.ireturn, 1) := zdcg 1 zdT_dX9_readsInner_45 rfl
theorem dX9_readsInner_47 : decode cX9_readsInner 47 = .ok (.aload_n 0, 1) := zdcg 2 zdT_dX9_readsInner_45 rfl
theorem dX9_readsInner_48 : decode cX9_readsInner 48 = .ok (.invokevirtual 364, 3) := zdcg 3 zdT_dX9_readsInner_45 rfl
theorem dX9_readsInner_51 : decode cX9_readsInner 51 = .ok (.bipush 41, 2) := zdcg 4 zdT_dX9_readsInner_45 rfl
theorem dX9_readsInner_53 : decode cX9_readsInner 53 = .ok (.if_icmp .eq 13, 3) := zdcg 5 zdT_dX9_readsInner_45 rfl
theorem dX9_readsInner_56 : decode cX9_readsInner 56 = .ok (.aload_n 0, 1) := zdcg 6 zdT_dX9_readsInner_45 rfl
theorem dX9_readsInner_57 : decode cX9_readsInner 57 = .ok (.iconst 1, 1) := zdcg 7 zdT_dX9_readsInner_45 rfl
theorem dX9_readsInner_58 : decode cX9_readsInner 58 = .ok (.aload_n 0, 1) := zdcg 8 zdT_dX9_readsInner_45 rfl
theorem dX9_readsInner_59 : decode cX9_readsInner 59 = .ok (.getfield 353, 3) := zdcg 9 zdT_dX9_readsInner_45 rfl
theorem dX9_readsInner_62 : decode cX9_readsInner 62 = .ok (.invokevirtual 377, 3) := zdcg 10 zdT_dX9_readsInner_45 rfl
theorem dX9_readsInner_65 : decode cX9_readsInner 65 = .ok (.ireturn, 1) := zdcg 11 zdT_dX9_readsInner_45 rfl
theorem dX9_readsInner_66 : decode cX9_readsInner 66 = .ok (.aload_n 0, 1) := zdcg 12 zdT_dX9_readsInner_45 rfl
theorem dX9_readsInner_67 : decode cX9_readsInner 67 = .ok (.dup, 1) := zdcg 13 zdT_dX9_readsInner_45 rfl
theorem dX9_readsInner_68 : decode cX9_readsInner 68 = .ok (.getfield 353, 3) := zdcg 14 zdT_dX9_readsInner_45 rfl
theorem dX9_readsInner_71 : decode cX9_readsInner 71 = .ok (.iconst 1, 1) := zdcg 15 zdT_dX9_readsInner_45 rfl
theorem dX9_readsInner_72 : decode cX9_readsInner 72 = .ok (.iadd, 1) := zdcg 16 zdT_dX9_readsInner_45 rfl
theorem dX9_readsInner_73 : decode cX9_readsInner 73 = .ok (.putfield 353, 3) := zdcg 17 zdT_dX9_readsInner_45 rfl
theorem dX9_readsInner_76 : decode cX9_readsInner 76 = .ok (.iconst 0, 1) := zdcg 18 zdT_dX9_readsInner_45 rfl
theorem dX9_readsInner_77 : decode cX9_readsInner 77 = .ok (.istore_n 1, 1) := zdcg 19 zdT_dX9_readsInner_45 rfl
theorem dX9_readsInner_78 : decode cX9_readsInner 78 = .ok (.iload_n 1, 1) := zdcg 20 zdT_dX9_readsInner_45 rfl
theorem dX9_readsInner_79 : decode cX9_readsInner 79 = .ok (.aload_n 0, 1) := zdcg 21 zdT_dX9_readsInner_45 rfl
theorem dX9_readsInner_80 : decode cX9_readsInner 80 = .ok (.getfield 153, 3) := zdcg 22 zdT_dX9_readsInner_45 rfl
theorem dX9_readsInner_83 : decode cX9_readsInner 83 = .ok (.if_icmp .ge 29, 3) := zdcg 23 zdT_dX9_readsInner_45 rfl
theorem dX9_readsInner_86 : decode cX9_readsInner 86 = .ok (.aload_n 0, 1) := zdcg 24 zdT_dX9_readsInner_45 rfl
theorem zdT_dX9_readsInner_87 : zdch cX9_readsInner [(87, (.getfield 140, 3)), (90, (.iload_n 1, 1)), (91, (.aload_n 0, 1)), (92, (.getfield 134, 3)), (95, (.bipush 11, 2)), (97, (.aload_n 0, 1)), (98, (.getfield 396, 3)), (101, (.imul, 1)), (102, (.iload_n 1, 1)), (103, (.iadd, 1)), (104, (.laload, 1)), (105, (.lastore, 1)), (106, (.iinc 1 1, 3)), (109, (.goto (-31), 3)), (112, (.aload_n 0, 1)), (113, (.dup, 1)), (114, (.getfield 396, 3)), (117, (.iconst 1, 1)), (118, (.isub, 1)), (119, (.putfield 396, 3)), (122, (.iconst 1, 1)), (123, (.ireturn, 1))] = true := by decide +kernel
theorem dX9_readsInner_87 : decode cX9_readsInner 87 = .ok (.getfield 140, 3) := zdcg 0 zdT_dX9_readsInner_87 rfl
theorem dX9_readsInner_90 : decode cX9_readsInner 90 = .ok (.iload_n 1, 1) := zdcg 1 zdT_dX9_readsInner_87 rfl
theorem dX9_readsInner_91 : decode cX9_readsInner 91 = .ok (.aload_n 0, 1) := zdcg 2 zdT_dX9_readsInner_87 rfl
theorem dX9_readsInner_92 : decode cX9_readsInner 92 = .ok (.getfield 134, 3) := zdcg 3 zdT_dX9_readsInner_87 rfl
theorem dX9_readsInner_95 : decode cX9_readsInner 95 = .ok (.bipush 11, 2) := zdcg 4 zdT_dX9_readsInner_87 rfl
theorem dX9_readsInner_97 : decode cX9_readsInner 97 = .ok (.aload_n 0, 1) := zdcg 5 zdT_dX9_readsInner_87 rfl
theorem dX9_readsInner_98 : decode cX9_readsInner 98 = .ok (.getfield 396, 3) := zdcg 6 zdT_dX9_readsInner_87 rfl
theorem dX9_readsInner_101 : decode cX9_readsInner 101 = .ok (.imul, 1) := zdcg 7 zdT_dX9_readsInner_87 rfl
theorem dX9_readsInner_102 : decode cX9_readsInner 102 = .ok (.iload_n 1, 1) := zdcg 8 zdT_dX9_readsInner_87 rfl
theorem dX9_readsInner_103 : decode cX9_readsInner 103 = .ok (.iadd, 1) := zdcg 9 zdT_dX9_readsInner_87 rfl
theorem dX9_readsInner_104 : decode cX9_readsInner 104 = .ok (.laload, 1) := zdcg 10 zdT_dX9_readsInner_87 rfl
theorem dX9_readsInner_105 : decode cX9_readsInner 105 = .ok (.lastore, 1) := zdcg 11 zdT_dX9_readsInner_87 rfl
theorem dX9_readsInner_106 : decode cX9_readsInner 106 = .ok (.iinc 1 1, 3) := zdcg 12 zdT_dX9_readsInner_87 rfl
theorem dX9_readsInner_109 : decode cX9_readsInner 109 = .ok (.goto (-31), 3) := zdcg 13 zdT_dX9_readsInner_87 rfl
theorem dX9_readsInner_112 : decode cX9_readsInner 112 = .ok (.aload_n 0, 1) := zdcg 14 zdT_dX9_readsInner_87 rfl
theorem dX9_readsInner_113 : decode cX9_readsInner 113 = .ok (.dup, 1) := zdcg 15 zdT_dX9_readsInner_87 rfl
theorem dX9_readsInner_114 : decode cX9_readsInner 114 = .ok (.getfield 396, 3) := zdcg 16 zdT_dX9_readsInner_87 rfl
theorem dX9_readsInner_117 : decode cX9_readsInner 117 = .ok (.iconst 1, 1) := zdcg 17 zdT_dX9_readsInner_87 rfl
theorem dX9_readsInner_118 : decode cX9_readsInner 118 = .ok (.isub, 1) := zdcg 18 zdT_dX9_readsInner_87 rfl
theorem dX9_readsInner_119 : decode cX9_readsInner 119 = .ok (.putfield 396, 3) := zdcg 19 zdT_dX9_readsInner_87 rfl
theorem dX9_readsInner_122 : decode cX9_readsInner 122 = .ok (.iconst 1, 1) := zdcg 20 zdT_dX9_readsInner_87 rfl
theorem dX9_readsInner_123 : decode cX9_readsInner 123 = .ok (.ireturn, 1) := zdcg 21 zdT_dX9_readsInner_87 rfl
theorem zdT_dX9_readsFactor_0 : zdch cX9_readsFactor [(0, (.aload_n 0, 1)), (1, (.invokevirtual 402, 3)), (4, (.aload_n 0, 1)), (5, (.invokevirtual 364, 3)), (8, (.istore_n 1, 1)), (9, (.iload_n 1, 1)), (10, (.bipush 40, 2)), (12, (.if_icmp .ne 11, 3)), (15, (.aload_n 0, 1)), (16, (.invokevirtual 405, 3)), (19, (.istore_n 2, 1)), (20, (.goto 132, 3)), (23, (.iload_n 1, 1)), (24, (.bipush 91, 2)), (26, (.if_icmp .eq 21, 3)), (29, (.iload_n 1, 1)), (30, (.bipush 68, 2)), (32, (.if_icmp .eq 15, 3)), (35, (.iload_n 1, 1)), (36, (.bipush 80, 2)), (38, (.if_icmp .eq 9, 3)), (41, (.iload_n 1, 1)), (42, (.bipush 77, 2)), (44, (.if_icmp .ne 12, 3)), (47, (.aload_n 0, 1))] = true := by decide +kernel
theorem dX9_readsFactor_0 : decode cX9_readsFactor 0 = .ok (.aload_n 0, 1) := zdcg 0 zdT_dX9_readsFactor_0 rfl
theorem dX9_readsFactor_1 : decode cX9_readsFactor 1 = .ok (.invokevirtual 402, 3) := zdcg 1 zdT_dX9_readsFactor_0 rfl
theorem dX9_readsFactor_4 : decode cX9_readsFactor 4 = .ok (.aload_n 0, 1) := zdcg 2 zdT_dX9_readsFactor_0 rfl
theorem dX9_readsFactor_5 : decode cX9_readsFactor 5 = .ok (.invokevirtual 364, 3) := zdcg 3 zdT_dX9_readsFactor_0 rfl
theorem dX9_readsFactor_8 : decode cX9_readsFactor 8 = .ok (.istore_n 1, 1) := zdcg 4 zdT_dX9_readsFactor_0 rfl
theorem dX9_readsFactor_9 : decode cX9_readsFactor 9 = .ok (.iload_n 1, 1) := zdcg 5 zdT_dX9_readsFactor_0 rfl
theorem dX9_readsFactor_10 : decode cX9_readsFactor 10 = .ok (.bipush 40, 2) := zdcg 6 zdT_dX9_readsFactor_0 rfl
theorem dX9_readsFactor_12 : decode cX9_readsFactor 12 = .ok (.if_icmp .ne 11, 3) := zdcg 7 zdT_dX9_readsFactor_0 rfl
theorem dX9_readsFactor_15 : decode cX9_readsFactor 15 = .ok (.aload_n 0, 1) := zdcg 8 zdT_dX9_readsFactor_0 rfl
theorem dX9_readsFactor_16 : decode cX9_readsFactor 16 = .ok (.invokevirtual 405, 3) := zdcg 9 zdT_dX9_readsFactor_0 rfl
theorem dX9_readsFactor_19 : decode cX9_readsFactor 19 = .ok (.istore_n 2, 1) := zdcg 10 zdT_dX9_readsFactor_0 rfl
theorem dX9_readsFactor_20 : decode cX9_readsFactor 20 = .ok (.goto 132, 3) := zdcg 11 zdT_dX9_readsFactor_0 rfl
theorem dX9_readsFactor_23 : decode cX9_readsFactor 23 = .ok (.iload_n 1, 1) := zdcg 12 zdT_dX9_readsFactor_0 rfl
theorem dX9_readsFactor_24 : decode cX9_readsFactor 24 = .ok (.bipush 91, 2) := zdcg 13 zdT_dX9_readsFactor_0 rfl
theorem dX9_readsFactor_26 : decode cX9_readsFactor 26 = .ok (.if_icmp .eq 21, 3) := zdcg 14 zdT_dX9_readsFactor_0 rfl
theorem dX9_readsFactor_29 : decode cX9_readsFactor 29 = .ok (.iload_n 1, 1) := zdcg 15 zdT_dX9_readsFactor_0 rfl
theorem dX9_readsFactor_30 : decode cX9_readsFactor 30 = .ok (.bipush 68, 2) := zdcg 16 zdT_dX9_readsFactor_0 rfl
theorem dX9_readsFactor_32 : decode cX9_readsFactor 32 = .ok (.if_icmp .eq 15, 3) := zdcg 17 zdT_dX9_readsFactor_0 rfl
theorem dX9_readsFactor_35 : decode cX9_readsFactor 35 = .ok (.iload_n 1, 1) := zdcg 18 zdT_dX9_readsFactor_0 rfl
theorem dX9_readsFactor_36 : decode cX9_readsFactor 36 = .ok (.bipush 80, 2) := zdcg 19 zdT_dX9_readsFactor_0 rfl
theorem dX9_readsFactor_38 : decode cX9_readsFactor 38 = .ok (.if_icmp .eq 9, 3) := zdcg 20 zdT_dX9_readsFactor_0 rfl
theorem dX9_readsFactor_41 : decode cX9_readsFactor 41 = .ok (.iload_n 1, 1) := zdcg 21 zdT_dX9_readsFactor_0 rfl
theorem dX9_readsFactor_42 : decode cX9_readsFactor 42 = .ok (.bipush 77, 2) := zdcg 22 zdT_dX9_readsFactor_0 rfl
theorem dX9_readsFactor_44 : decode cX9_readsFactor 44 = .ok (.if_icmp .ne 12, 3) := zdcg 23 zdT_dX9_readsFactor_0 rfl
theorem dX9_readsFactor_47 : decode cX9_readsFactor 47 = .ok (.aload_n 0, 1) := zdcg 24 zdT_dX9_readsFactor_0 rfl
theorem zdT_dX9_readsFactor_48 : zdch cX9_readsFactor [(48, (.iload_n 1, 1)), (49, (.invokevirtual 408, 3)), (52, (.istore_n 2, 1)), (53, (.goto 99, 3)), (56, (.iload_n 1, 1)), (57, (.bipush 88, 2)), (59, (.if_icmp .ne 11, 3)), (62, (.aload_n 0, 1)), (63, (.invokevirtual 411, 3)), (66, (.istore_n 2, 1)), (67, (.goto 85, 3)), (70, (.iload_n 1, 1)), (71, (.bipush 83, 2)), (73, (.if_icmp .ne 47, 3)), (76, (.aload_n 0, 1)), (77, (.dup, 1)), (78, (.getfield 353, 3)), (81, (.iconst 1, 1)), (82, (.iadd, 1)), (83, (.putfield 353, 3)), (86, (.iconst 0, 1)), (87, (.istore_n 3, 1)), (88, (.iload_n 3, 1)), (89, (.aload_n 0, 1)), (90, (.getfield 153, 3))] = true := by decide +kernel
theorem dX9_readsFactor_48 : decode cX9_readsFactor 48 = .ok (.iload_n 1, 1) := zdcg 0 zdT_dX9_readsFactor_48 rfl
theorem dX9_readsFactor_49 : decode cX9_readsFactor 49 = .ok (.invokevirtual 408, 3) := zdcg 1 zdT_dX9_readsFactor_48 rfl
theorem dX9_readsFactor_52 : decode cX9_readsFactor 52 = .ok (.istore_n 2, 1) := zdcg 2 zdT_dX9_readsFactor_48 rfl
theorem dX9_readsFactor_53 : decode cX9_readsFactor 53 = .ok (.goto 99, 3) := zdcg 3 zdT_dX9_readsFactor_48 rfl
theorem dX9_readsFactor_56 : decode cX9_readsFactor 56 = .ok (.iload_n 1, 1) := zdcg 4 zdT_dX9_readsFactor_48 rfl
theorem dX9_readsFactor_57 : decode cX9_readsFactor 57 = .ok (.bipush 88, 2) := zdcg 5 zdT_dX9_readsFactor_48 rfl
theorem dX9_readsFactor_59 : decode cX9_readsFactor 59 = .ok (.if_icmp .ne 11, 3) := zdcg 6 zdT_dX9_readsFactor_48 rfl
theorem dX9_readsFactor_62 : decode cX9_readsFactor 62 = .ok (.aload_n 0, 1) := zdcg 7 zdT_dX9_readsFactor_48 rfl
theorem dX9_readsFactor_63 : decode cX9_readsFactor 63 = .ok (.invokevirtual 411, 3) := zdcg 8 zdT_dX9_readsFactor_48 rfl
theorem dX9_readsFactor_66 : decode cX9_readsFactor 66 = .ok (.istore_n 2, 1) := zdcg 9 zdT_dX9_readsFactor_48 rfl
theorem dX9_readsFactor_67 : decode cX9_readsFactor 67 = .ok (.goto 85, 3) := zdcg 10 zdT_dX9_readsFactor_48 rfl
theorem dX9_readsFactor_70 : decode cX9_readsFactor 70 = .ok (.iload_n 1, 1) := zdcg 11 zdT_dX9_readsFactor_48 rfl
theorem dX9_readsFactor_71 : decode cX9_readsFactor 71 = .ok (.bipush 83, 2) := zdcg 12 zdT_dX9_readsFactor_48 rfl
theorem dX9_readsFactor_73 : decode cX9_readsFactor 73 = .ok (.if_icmp .ne 47, 3) := zdcg 13 zdT_dX9_readsFactor_48 rfl
theorem dX9_readsFactor_76 : decode cX9_readsFactor 76 = .ok (.aload_n 0, 1) := zdcg 14 zdT_dX9_readsFactor_48 rfl
theorem dX9_readsFactor_77 : decode cX9_readsFactor 77 = .ok (.dup, 1) := zdcg 15 zdT_dX9_readsFactor_48 rfl
theorem dX9_readsFactor_78 : decode cX9_readsFactor 78 = .ok (.getfield 353, 3) := zdcg 16 zdT_dX9_readsFactor_48 rfl
theorem dX9_readsFactor_81 : decode cX9_readsFactor 81 = .ok (.iconst 1, 1) := zdcg 17 zdT_dX9_readsFactor_48 rfl
theorem dX9_readsFactor_82 : decode cX9_readsFactor 82 = .ok (.iadd, 1) := zdcg 18 zdT_dX9_readsFactor_48 rfl
theorem dX9_readsFactor_83 : decode cX9_readsFactor 83 = .ok (.putfield 353, 3) := zdcg 19 zdT_dX9_readsFactor_48 rfl
theorem dX9_readsFactor_86 : decode cX9_readsFactor 86 = .ok (.iconst 0, 1) := zdcg 20 zdT_dX9_readsFactor_48 rfl
theorem dX9_readsFactor_87 : decode cX9_readsFactor 87 = .ok (.istore_n 3, 1) := zdcg 21 zdT_dX9_readsFactor_48 rfl
theorem dX9_readsFactor_88 : decode cX9_readsFactor 88 = .ok (.iload_n 3, 1) := zdcg 22 zdT_dX9_readsFactor_48 rfl
theorem dX9_readsFactor_89 : decode cX9_readsFactor 89 = .ok (.aload_n 0, 1) := zdcg 23 zdT_dX9_readsFactor_48 rfl
theorem dX9_readsFactor_90 : decode cX9_readsFactor 90 = .ok (.getfield 153, 3) := zdcg 24 zdT_dX9_readsFactor_48 rfl
theorem zdT_dX9_readsFactor_93 : zdch cX9_readsFactor [(93, (.if_icmp .ge 22, 3)), (96, (.aload_n 0, 1)), (97, (.getfield 140, 3)), (100, (.iload_n 3, 1)), (101, (.aload_n 0, 1)), (102, (.getfield 29, 3)), (105, (.iload_n 3, 1)), (106, (.iaload, 1)), (107, (.i2l, 1)), (108, (.lastore, 1)), (109, (.iinc 3 1, 3)), (112, (.goto (-24), 3)), (115, (.iconst 1, 1)), (116, (.istore_n 2, 1)), (117, (.goto 35, 3)), (120, (.aload_n 0, 1)), (121, (.invokevirtual 383, 3)), (124, (.istore_n 2, 1)), (125, (.iconst 0, 1)), (126, (.istore_n 3, 1)), (127, (.iload_n 3, 1)), (128, (.aload_n 0, 1)), (129, (.getfield 153, 3)), (132, (.if_icmp .ge 20, 3)), (135, (.aload_n 0, 1))] = true := by decide +kernel
theorem dX9_readsFactor_93 : decode cX9_readsFactor 93 = .ok (.if_icmp .ge 22, 3) := zdcg 0 zdT_dX9_readsFactor_93 rfl
theorem dX9_readsFactor_96 : decode cX9_readsFactor 96 = .ok (.aload_n 0, 1) := zdcg 1 zdT_dX9_readsFactor_93 rfl
theorem dX9_readsFactor_97 : decode cX9_readsFactor 97 = .ok (.getfield 140, 3) := zdcg 2 zdT_dX9_readsFactor_93 rfl
theorem dX9_readsFactor_100 : decode cX9_readsFactor 100 = .ok (.iload_n 3, 1) := zdcg 3 zdT_dX9_readsFactor_93 rfl
theorem dX9_readsFactor_101 : decode cX9_readsFactor 101 = .ok (.aload_n 0, 1) := zdcg 4 zdT_dX9_readsFactor_93 rfl
theorem dX9_readsFactor_102 : decode cX9_readsFactor 102 = .ok (.getfield 29, 3) := zdcg 5 zdT_dX9_readsFactor_93 rfl
theorem dX9_readsFactor_105 : decode cX9_readsFactor 105 = .ok (.iload_n 3, 1) := zdcg 6 zdT_dX9_readsFactor_93 rfl
theorem dX9_readsFactor_106 : decode cX9_readsFactor 106 = .ok (.iaload, 1) := zdcg 7 zdT_dX9_readsFactor_93 rfl
theorem dX9_readsFactor_107 : decode cX9_readsFactor 107 = .ok (.i2l, 1) := zdcg 8 zdT_dX9_readsFactor_93 rfl
theorem dX9_readsFactor_108 : decode cX9_readsFactor 108 = .ok (.lastore, 1) := zdcg 9 zdT_dX9_readsFactor_93 rfl
theorem dX9_readsFactor_109 : decode cX9_readsFactor 109 = .ok (.iinc 3 1, 3) := zdcg 10 zdT_dX9_readsFactor_93 rfl
theorem dX9_readsFactor_112 : decode cX9_readsFactor 112 = .ok (.goto (-24), 3) := zdcg 11 zdT_dX9_readsFactor_93 rfl
theorem dX9_readsFactor_115 : decode cX9_readsFactor 115 = .ok (.iconst 1, 1) := zdcg 12 zdT_dX9_readsFactor_93 rfl
theorem dX9_readsFactor_116 : decode cX9_readsFactor 116 = .ok (.istore_n 2, 1) := zdcg 13 zdT_dX9_readsFactor_93 rfl
theorem dX9_readsFactor_117 : decode cX9_readsFactor 117 = .ok (.goto 35, 3) := zdcg 14 zdT_dX9_readsFactor_93 rfl
theorem dX9_readsFactor_120 : decode cX9_readsFactor 120 = .ok (.aload_n 0, 1) := zdcg 15 zdT_dX9_readsFactor_93 rfl
theorem dX9_readsFactor_121 : decode cX9_readsFactor 121 = .ok (.invokevirtual 383, 3) := zdcg 16 zdT_dX9_readsFactor_93 rfl
theorem dX9_readsFactor_124 : decode cX9_readsFactor 124 = .ok (.istore_n 2, 1) := zdcg 17 zdT_dX9_readsFactor_93 rfl
theorem dX9_readsFactor_125 : decode cX9_readsFactor 125 = .ok (.iconst 0, 1) := zdcg 18 zdT_dX9_readsFactor_93 rfl
theorem dX9_readsFactor_126 : decode cX9_readsFactor 126 = .ok (.istore_n 3, 1) := zdcg 19 zdT_dX9_readsFactor_93 rfl
theorem dX9_readsFactor_127 : decode cX9_readsFactor 127 = .ok (.iload_n 3, 1) := zdcg 20 zdT_dX9_readsFactor_93 rfl
theorem dX9_readsFactor_128 : decode cX9_readsFactor 128 = .ok (.aload_n 0, 1) := zdcg 21 zdT_dX9_readsFactor_93 rfl
theorem dX9_readsFactor_129 : decode cX9_readsFactor 129 = .ok (.getfield 153, 3) := zdcg 22 zdT_dX9_readsFactor_93 rfl
theorem dX9_readsFactor_132 : decode cX9_readsFactor 132 = .ok (.if_icmp .ge 20, 3) := zdcg 23 zdT_dX9_readsFactor_93 rfl
theorem dX9_readsFactor_135 : decode cX9_readsFactor 135 = .ok (.aload_n 0, 1) := zdcg 24 zdT_dX9_readsFactor_93 rfl
theorem zdT_dX9_readsFactor_136 : zdch cX9_readsFactor [(136, (.getfield 140, 3)), (139, (.iload_n 3, 1)), (140, (.aload_n 0, 1)), (141, (.getfield 370, 3)), (144, (.i2l, 1)), (145, (.lastore, 1)), (146, (.iinc 3 1, 3)), (149, (.goto (-22), 3)), (152, (.iload_n 2, 1)), (153, (.ifCond .eq 13, 3)), (156, (.aload_n 0, 1)), (157, (.dup, 1)), (158, (.getfield 359, 3)), (161, (.iconst 1, 1)), (162, (.isub, 1)), (163, (.putfield 359, 3)), (166, (.iload_n 2, 1)), (167, (.ireturn, 1))] = true := by decide +kernel
theorem dX9_readsFactor_136 : decode cX9_readsFactor 136 = .ok (.getfield 140, 3) := zdcg 0 zdT_dX9_readsFactor_136 rfl
theorem dX9_readsFactor_139 : decode cX9_readsFactor 139 = .ok (.iload_n 3, 1) := zdcg 1 zdT_dX9_readsFactor_136 rfl
theorem dX9_readsFactor_140 : decode cX9_readsFactor 140 = .ok (.aload_n 0, 1) := zdcg 2 zdT_dX9_readsFactor_136 rfl
theorem dX9_readsFactor_141 : decode cX9_readsFactor 141 = .ok (.getfield 370, 3) := zdcg 3 zdT_dX9_readsFactor_136 rfl
theorem dX9_readsFactor_144 : decode cX9_readsFactor 144 = .ok (.i2l, 1) := zdcg 4 zdT_dX9_readsFactor_136 rfl
theorem dX9_readsFactor_145 : decode cX9_readsFactor 145 = .ok (.lastore, 1) := zdcg 5 zdT_dX9_readsFactor_136 rfl
theorem dX9_readsFactor_146 : decode cX9_readsFactor 146 = .ok (.iinc 3 1, 3) := zdcg 6 zdT_dX9_readsFactor_136 rfl
theorem dX9_readsFactor_149 : decode cX9_readsFactor 149 = .ok (.goto (-22), 3) := zdcg 7 zdT_dX9_readsFactor_136 rfl
theorem dX9_readsFactor_152 : decode cX9_readsFactor 152 = .ok (.iload_n 2, 1) := zdcg 8 zdT_dX9_readsFactor_136 rfl
theorem dX9_readsFactor_153 : decode cX9_readsFactor 153 = .ok (.ifCond .eq 13, 3) := zdcg 9 zdT_dX9_readsFactor_136 rfl
theorem dX9_readsFactor_156 : decode cX9_readsFactor 156 = .ok (.aload_n 0, 1) := zdcg 10 zdT_dX9_readsFactor_136 rfl
theorem dX9_readsFactor_157 : decode cX9_readsFactor 157 = .ok (.dup, 1) := zdcg 11 zdT_dX9_readsFactor_136 rfl
theorem dX9_readsFactor_158 : decode cX9_readsFactor 158 = .ok (.getfield 359, 3) := zdcg 12 zdT_dX9_readsFactor_136 rfl
theorem dX9_readsFactor_161 : decode cX9_readsFactor 161 = .ok (.iconst 1, 1) := zdcg 13 zdT_dX9_readsFactor_136 rfl
theorem dX9_readsFactor_162 : decode cX9_readsFactor 162 = .ok (.isub, 1) := zdcg 14 zdT_dX9_readsFactor_136 rfl
theorem dX9_readsFactor_163 : decode cX9_readsFactor 163 = .ok (.putfield 359, 3) := zdcg 15 zdT_dX9_readsFactor_136 rfl
theorem dX9_readsFactor_166 : decode cX9_readsFactor 166 = .ok (.iload_n 2, 1) := zdcg 16 zdT_dX9_readsFactor_136 rfl
theorem dX9_readsFactor_167 : decode cX9_readsFactor 167 = .ok (.ireturn, 1) := zdcg 17 zdT_dX9_readsFactor_136 rfl
theorem zdT_dX9_areNear_0 : zdch cX9_areNear [(0, (.iconst 0, 1)), (1, (.istore_n 2, 1)), (2, (.iload_n 2, 1)), (3, (.aload_n 0, 1)), (4, (.getfield 153, 3)), (7, (.if_icmp .ge 34, 3)), (10, (.aload_n 1, 1)), (11, (.bipush 11, 2)), (13, (.aload_n 0, 1)), (14, (.getfield 396, 3)), (17, (.imul, 1)), (18, (.iload_n 2, 1)), (19, (.iadd, 1)), (20, (.laload, 1)), (21, (.ldc2_w 414, 3)), (24, (.ldc2_w 416, 3)), (27, (.invokestatic 283, 3)), (30, (.ifCond .ne 5, 3)), (33, (.iconst 0, 1)), (34, (.ireturn, 1)), (35, (.iinc 2 1, 3)), (38, (.goto (-36), 3)), (41, (.iconst 1, 1)), (42, (.ireturn, 1))] = true := by decide +kernel
theorem dX9_areNear_0 : decode cX9_areNear 0 = .ok (.iconst 0, 1) := zdcg 0 zdT_dX9_areNear_0 rfl
theorem dX9_areNear_1 : decode cX9_areNear 1 = .ok (.istore_n 2, 1) := zdcg 1 zdT_dX9_areNear_0 rfl
theorem dX9_areNear_2 : decode cX9_areNear 2 = .ok (.iload_n 2, 1) := zdcg 2 zdT_dX9_areNear_0 rfl
theorem dX9_areNear_3 : decode cX9_areNear 3 = .ok (.aload_n 0, 1) := zdcg 3 zdT_dX9_areNear_0 rfl
theorem dX9_areNear_4 : decode cX9_areNear 4 = .ok (.getfield 153, 3) := zdcg 4 zdT_dX9_areNear_0 rfl
theorem dX9_areNear_7 : decode cX9_areNear 7 = .ok (.if_icmp .ge 34, 3) := zdcg 5 zdT_dX9_areNear_0 rfl
theorem dX9_areNear_10 : decode cX9_areNear 10 = .ok (.aload_n 1, 1) := zdcg 6 zdT_dX9_areNear_0 rfl
theorem dX9_areNear_11 : decode cX9_areNear 11 = .ok (.bipush 11, 2) := zdcg 7 zdT_dX9_areNear_0 rfl
theorem dX9_areNear_13 : decode cX9_areNear 13 = .ok (.aload_n 0, 1) := zdcg 8 zdT_dX9_areNear_0 rfl
theorem dX9_areNear_14 : decode cX9_areNear 14 = .ok (.getfield 396, 3) := zdcg 9 zdT_dX9_areNear_0 rfl
theorem dX9_areNear_17 : decode cX9_areNear 17 = .ok (.imul, 1) := zdcg 10 zdT_dX9_areNear_0 rfl
theorem dX9_areNear_18 : decode cX9_areNear 18 = .ok (.iload_n 2, 1) := zdcg 11 zdT_dX9_areNear_0 rfl
theorem dX9_areNear_19 : decode cX9_areNear 19 = .ok (.iadd, 1) := zdcg 12 zdT_dX9_areNear_0 rfl
theorem dX9_areNear_20 : decode cX9_areNear 20 = .ok (.laload, 1) := zdcg 13 zdT_dX9_areNear_0 rfl
theorem dX9_areNear_21 : decode cX9_areNear 21 = .ok (.ldc2_w 414, 3) := zdcg 14 zdT_dX9_areNear_0 rfl
theorem dX9_areNear_24 : decode cX9_areNear 24 = .ok (.ldc2_w 416, 3) := zdcg 15 zdT_dX9_areNear_0 rfl
theorem dX9_areNear_27 : decode cX9_areNear 27 = .ok (.invokestatic 283, 3) := zdcg 16 zdT_dX9_areNear_0 rfl
theorem dX9_areNear_30 : decode cX9_areNear 30 = .ok (.ifCond .ne 5, 3) := zdcg 17 zdT_dX9_areNear_0 rfl
theorem dX9_areNear_33 : decode cX9_areNear 33 = .ok (.iconst 0, 1) := zdcg 18 zdT_dX9_areNear_0 rfl
theorem dX9_areNear_34 : decode cX9_areNear 34 = .ok (.ireturn, 1) := zdcg 19 zdT_dX9_areNear_0 rfl
theorem dX9_areNear_35 : decode cX9_areNear 35 = .ok (.iinc 2 1, 3) := zdcg 20 zdT_dX9_areNear_0 rfl
theorem dX9_areNear_38 : decode cX9_areNear 38 = .ok (.goto (-36), 3) := zdcg 21 zdT_dX9_areNear_0 rfl
theorem dX9_areNear_41 : decode cX9_areNear 41 = .ok (.iconst 1, 1) := zdcg 22 zdT_dX9_areNear_0 rfl
theorem dX9_areNear_42 : decode cX9_areNear 42 = .ok (.ireturn, 1) := zdcg 23 zdT_dX9_areNear_0 rfl
theorem zdT_dX9_readsTerm_0 : zdch cX9_readsTerm [(0, (.aload_n 0, 1)), (1, (.invokevirtual 402, 3)), (4, (.aload_n 0, 1)), (5, (.invokevirtual 418, 3)), (8, (.ifCond .ne 5, 3)), (11, (.iconst 0, 1)), (12, (.ireturn, 1)), (13, (.iconst 0, 1)), (14, (.istore_n 1, 1)), (15, (.iload_n 1, 1)), (16, (.aload_n 0, 1)), (17, (.getfield 153, 3)), (20, (.if_icmp .ge 29, 3)), (23, (.aload_n 0, 1)), (24, (.getfield 137, 3)), (27, (.bipush 11, 2)), (29, (.aload_n 0, 1)), (30, (.getfield 396, 3)), (33, (.imul, 1)), (34, (.iload_n 1, 1)), (35, (.iadd, 1)), (36, (.aload_n 0, 1)), (37, (.getfield 140, 3)), (40, (.iload_n 1, 1)), (41, (.laload, 1))] = true := by decide +kernel
theorem dX9_readsTerm_0 : decode cX9_readsTerm 0 = .ok (.aload_n 0, 1) := zdcg 0 zdT_dX9_readsTerm_0 rfl
theorem dX9_readsTerm_1 : decode cX9_readsTerm 1 = .ok (.invokevirtual 402, 3) := zdcg 1 zdT_dX9_readsTerm_0 rfl
theorem dX9_readsTerm_4 : decode cX9_readsTerm 4 = .ok (.aload_n 0, 1) := zdcg 2 zdT_dX9_readsTerm_0 rfl
theorem dX9_readsTerm_5 : decode cX9_readsTerm 5 = .ok (.invokevirtual 418, 3) := zdcg 3 zdT_dX9_readsTerm_0 rfl
theorem dX9_readsTerm_8 : decode cX9_readsTerm 8 = .ok (.ifCond .ne 5, 3) := zdcg 4 zdT_dX9_readsTerm_0 rfl
theorem dX9_readsTerm_11 : decode cX9_readsTerm 11 = .ok (.iconst 0, 1) := zdcg 5 zdT_dX9_readsTerm_0 rfl
theorem dX9_readsTerm_12 : decode cX9_readsTerm 12 = .ok (.ireturn, 1) := zdcg 6 zdT_dX9_readsTerm_0 rfl
theorem dX9_readsTerm_13 : decode cX9_readsTerm 13 = .ok (.iconst 0, 1) := zdcg 7 zdT_dX9_readsTerm_0 rfl
theorem dX9_readsTerm_14 : decode cX9_readsTerm 14 = .ok (.istore_n 1, 1) := zdcg 8 zdT_dX9_readsTerm_0 rfl
theorem dX9_readsTerm_15 : decode cX9_readsTerm 15 = .ok (.iload_n 1, 1) := zdcg 9 zdT_dX9_readsTerm_0 rfl
theorem dX9_readsTerm_16 : decode cX9_readsTerm 16 = .ok (.aload_n 0, 1) := zdcg 10 zdT_dX9_readsTerm_0 rfl
theorem dX9_readsTerm_17 : decode cX9_readsTerm 17 = .ok (.getfield 153, 3) := zdcg 11 zdT_dX9_readsTerm_0 rfl
theorem dX9_readsTerm_20 : decode cX9_readsTerm 20 = .ok (.if_icmp .ge 29, 3) := zdcg 12 zdT_dX9_readsTerm_0 rfl
theorem dX9_readsTerm_23 : decode cX9_readsTerm 23 = .ok (.aload_n 0, 1) := zdcg 13 zdT_dX9_readsTerm_0 rfl
theorem dX9_readsTerm_24 : decode cX9_readsTerm 24 = .ok (.getfield 137, 3) := zdcg 14 zdT_dX9_readsTerm_0 rfl
theorem dX9_readsTerm_27 : decode cX9_readsTerm 27 = .ok (.bipush 11, 2) := zdcg 15 zdT_dX9_readsTerm_0 rfl
theorem dX9_readsTerm_29 : decode cX9_readsTerm 29 = .ok (.aload_n 0, 1) := zdcg 16 zdT_dX9_readsTerm_0 rfl
theorem dX9_readsTerm_30 : decode cX9_readsTerm 30 = .ok (.getfield 396, 3) := zdcg 17 zdT_dX9_readsTerm_0 rfl
theorem dX9_readsTerm_33 : decode cX9_readsTerm 33 = .ok (.imul, 1) := zdcg 18 zdT_dX9_readsTerm_0 rfl
theorem dX9_readsTerm_34 : decode cX9_readsTerm 34 = .ok (.iload_n 1, 1) := zdcg 19 zdT_dX9_readsTerm_0 rfl
theorem dX9_readsTerm_35 : decode cX9_readsTerm 35 = .ok (.iadd, 1) := zdcg 20 zdT_dX9_readsTerm_0 rfl
theorem dX9_readsTerm_36 : decode cX9_readsTerm 36 = .ok (.aload_n 0, 1) := zdcg 21 zdT_dX9_readsTerm_0 rfl
theorem dX9_readsTerm_37 : decode cX9_readsTerm 37 = .ok (.getfield 140, 3) := zdcg 22 zdT_dX9_readsTerm_0 rfl
theorem dX9_readsTerm_40 : decode cX9_readsTerm 40 = .ok (.iload_n 1, 1) := zdcg 23 zdT_dX9_readsTerm_0 rfl
theorem dX9_readsTerm_41 : decode cX9_readsTerm 41 = .ok (.laload, 1) := zdcg 24 zdT_dX9_readsTerm_0 rfl
theorem zdT_dX9_readsTerm_42 : zdch cX9_readsTerm [(42, (.lastore, 1)), (43, (.iinc 1 1, 3)), (46, (.goto (-31), 3)), (49, (.aload_n 0, 1)), (50, (.invokevirtual 364, 3)), (53, (.bipush 42, 2)), (55, (.if_icmp .ne 138, 3)), (58, (.aload_n 0, 1)), (59, (.getfield 353, 3)), (62, (.istore_n 1, 1)), (63, (.aload_n 0, 1)), (64, (.dup, 1)), (65, (.getfield 353, 3)), (68, (.iconst 1, 1)), (69, (.iadd, 1)), (70, (.putfield 353, 3)), (73, (.aload_n 0, 1)), (74, (.invokevirtual 418, 3)), (77, (.ifCond .ne 5, 3)), (80, (.iconst 0, 1)), (81, (.ireturn, 1)), (82, (.iconst 1, 1)), (83, (.istore_n 2, 1)), (84, (.iconst 0, 1)), (85, (.istore_n 3, 1))] = true := by decide +kernel
theorem dX9_readsTerm_42 : decode cX9_readsTerm 42 = .ok (.lastore, 1) := zdcg 0 zdT_dX9_readsTerm_42 rfl
theorem dX9_readsTerm_43 : decode cX9_readsTerm 43 = .ok (.iinc 1 1, 3) := zdcg 1 zdT_dX9_readsTerm_42 rfl
theorem dX9_readsTerm_46 : decode cX9_readsTerm 46 = .ok (.goto (-31), 3) := zdcg 2 zdT_dX9_readsTerm_42 rfl
theorem dX9_readsTerm_49 : decode cX9_readsTerm 49 = .ok (.aload_n 0, 1) := zdcg 3 zdT_dX9_readsTerm_42 rfl
theorem dX9_readsTerm_50 : decode cX9_readsTerm 50 = .ok (.invokevirtual 364, 3) := zdcg 4 zdT_dX9_readsTerm_42 rfl
theorem dX9_readsTerm_53 : decode cX9_readsTerm 53 = .ok (.bipush 42, 2) := zdcg 5 zdT_dX9_readsTerm_42 rfl
theorem dX9_readsTerm_55 : decode cX9_readsTerm 55 = .ok (.if_icmp .ne 138, 3) := zdcg 6 zdT_dX9_readsTerm_42 rfl
theorem dX9_readsTerm_58 : decode cX9_readsTerm 58 = .ok (.aload_n 0, 1) := zdcg 7 zdT_dX9_readsTerm_42 rfl
theorem dX9_readsTerm_59 : decode cX9_readsTerm 59 = .ok (.getfield 353, 3) := zdcg 8 zdT_dX9_readsTerm_42 rfl
theorem dX9_readsTerm_62 : decode cX9_readsTerm 62 = .ok (.istore_n 1, 1) := zdcg 9 zdT_dX9_readsTerm_42 rfl
theorem dX9_readsTerm_63 : decode cX9_readsTerm 63 = .ok (.aload_n 0, 1) := zdcg 10 zdT_dX9_readsTerm_42 rfl
theorem dX9_readsTerm_64 : decode cX9_readsTerm 64 = .ok (.dup, 1) := zdcg 11 zdT_dX9_readsTerm_42 rfl
theorem dX9_readsTerm_65 : decode cX9_readsTerm 65 = .ok (.getfield 353, 3) := zdcg 12 zdT_dX9_readsTerm_42 rfl
theorem dX9_readsTerm_68 : decode cX9_readsTerm 68 = .ok (.iconst 1, 1) := zdcg 13 zdT_dX9_readsTerm_42 rfl
theorem dX9_readsTerm_69 : decode cX9_readsTerm 69 = .ok (.iadd, 1) := zdcg 14 zdT_dX9_readsTerm_42 rfl
theorem dX9_readsTerm_70 : decode cX9_readsTerm 70 = .ok (.putfield 353, 3) := zdcg 15 zdT_dX9_readsTerm_42 rfl
theorem dX9_readsTerm_73 : decode cX9_readsTerm 73 = .ok (.aload_n 0, 1) := zdcg 16 zdT_dX9_readsTerm_42 rfl
theorem dX9_readsTerm_74 : decode cX9_readsTerm 74 = .ok (.invokevirtual 418, 3) := zdcg 17 zdT_dX9_readsTerm_42 rfl
theorem dX9_readsTerm_77 : decode cX9_readsTerm 77 = .ok (.ifCond .ne 5, 3) := zdcg 18 zdT_dX9_readsTerm_42 rfl
theorem dX9_readsTerm_80 : decode cX9_readsTerm 80 = .ok (.iconst 0, 1) := zdcg 19 zdT_dX9_readsTerm_42 rfl
theorem dX9_readsTerm_81 : decode cX9_readsTerm 81 = .ok (.ireturn, 1) := zdcg 20 zdT_dX9_readsTerm_42 rfl
theorem dX9_readsTerm_82 : decode cX9_readsTerm 82 = .ok (.iconst 1, 1) := zdcg 21 zdT_dX9_readsTerm_42 rfl
theorem dX9_readsTerm_83 : decode cX9_readsTerm 83 = .ok (.istore_n 2, 1) := zdcg 22 zdT_dX9_readsTerm_42 rfl
theorem dX9_readsTerm_84 : decode cX9_readsTerm 84 = .ok (.iconst 0, 1) := zdcg 23 zdT_dX9_readsTerm_42 rfl
theorem dX9_readsTerm_85 : decode cX9_readsTerm 85 = .ok (.istore_n 3, 1) := zdcg 24 zdT_dX9_readsTerm_42 rfl
theorem zdT_dX9_readsTerm_86 : zdch cX9_readsTerm [(86, (.iload_n 3, 1)), (87, (.aload_n 0, 1)), (88, (.getfield 153, 3)), (91, (.if_icmp .ge 87, 3)), (94, (.aload_n 0, 1)), (95, (.getfield 137, 3)), (98, (.bipush 11, 2)), (100, (.aload_n 0, 1)), (101, (.getfield 396, 3)), (104, (.imul, 1)), (105, (.iload_n 3, 1)), (106, (.iadd, 1)), (107, (.laload, 1)), (108, (.lstore 4, 2)), (110, (.iload_n 2, 1)), (111, (.ifCond .eq 36, 3)), (114, (.lload 4, 2)), (116, (.lconst 0, 1)), (117, (.lcmp, 1)), (118, (.ifCond .eq 25, 3)), (121, (.aload_n 0, 1)), (122, (.getfield 140, 3)), (125, (.iload_n 3, 1)), (126, (.laload, 1)), (127, (.invokestatic 421, 3))] = true := by decide +kernel
theorem dX9_readsTerm_86 : decode cX9_readsTerm 86 = .ok (.iload_n 3, 1) := zdcg 0 zdT_dX9_readsTerm_86 rfl
theorem dX9_readsTerm_87 : decode cX9_readsTerm 87 = .ok (.aload_n 0, 1) := zdcg 1 zdT_dX9_readsTerm_86 rfl
theorem dX9_readsTerm_88 : decode cX9_readsTerm 88 = .ok (.getfield 153, 3) := zdcg 2 zdT_dX9_readsTerm_86 rfl
theorem dX9_readsTerm_91 : decode cX9_readsTerm 91 = .ok (.if_icmp .ge 87, 3) := zdcg 3 zdT_dX9_readsTerm_86 rfl
theorem dX9_readsTerm_94 : decode cX9_readsTerm 94 = .ok (.aload_n 0, 1) := zdcg 4 zdT_dX9_readsTerm_86 rfl
theorem dX9_readsTerm_95 : decode cX9_readsTerm 95 = .ok (.getfield 137, 3) := zdcg 5 zdT_dX9_readsTerm_86 rfl
theorem dX9_readsTerm_98 : decode cX9_readsTerm 98 = .ok (.bipush 11, 2) := zdcg 6 zdT_dX9_readsTerm_86 rfl
theorem dX9_readsTerm_100 : decode cX9_readsTerm 100 = .ok (.aload_n 0, 1) := zdcg 7 zdT_dX9_readsTerm_86 rfl
theorem dX9_readsTerm_101 : decode cX9_readsTerm 101 = .ok (.getfield 396, 3) := zdcg 8 zdT_dX9_readsTerm_86 rfl
theorem dX9_readsTerm_104 : decode cX9_readsTerm 104 = .ok (.imul, 1) := zdcg 9 zdT_dX9_readsTerm_86 rfl
theorem dX9_readsTerm_105 : decode cX9_readsTerm 105 = .ok (.iload_n 3, 1) := zdcg 10 zdT_dX9_readsTerm_86 rfl
theorem dX9_readsTerm_106 : decode cX9_readsTerm 106 = .ok (.iadd, 1) := zdcg 11 zdT_dX9_readsTerm_86 rfl
theorem dX9_readsTerm_107 : decode cX9_readsTerm 107 = .ok (.laload, 1) := zdcg 12 zdT_dX9_readsTerm_86 rfl
theorem dX9_readsTerm_108 : decode cX9_readsTerm 108 = .ok (.lstore 4, 2) := zdcg 13 zdT_dX9_readsTerm_86 rfl
theorem dX9_readsTerm_110 : decode cX9_readsTerm 110 = .ok (.iload_n 2, 1) := zdcg 14 zdT_dX9_readsTerm_86 rfl
theorem dX9_readsTerm_111 : decode cX9_readsTerm 111 = .ok (.ifCond .eq 36, 3) := zdcg 15 zdT_dX9_readsTerm_86 rfl
theorem dX9_readsTerm_114 : decode cX9_readsTerm 114 = .ok (.lload 4, 2) := zdcg 16 zdT_dX9_readsTerm_86 rfl
theorem dX9_readsTerm_116 : decode cX9_readsTerm 116 = .ok (.lconst 0, 1) := zdcg 17 zdT_dX9_readsTerm_86 rfl
theorem dX9_readsTerm_117 : decode cX9_readsTerm 117 = .ok (.lcmp, 1) := zdcg 18 zdT_dX9_readsTerm_86 rfl
theorem dX9_readsTerm_118 : decode cX9_readsTerm 118 = .ok (.ifCond .eq 25, 3) := zdcg 19 zdT_dX9_readsTerm_86 rfl
theorem dX9_readsTerm_121 : decode cX9_readsTerm 121 = .ok (.aload_n 0, 1) := zdcg 20 zdT_dX9_readsTerm_86 rfl
theorem dX9_readsTerm_122 : decode cX9_readsTerm 122 = .ok (.getfield 140, 3) := zdcg 21 zdT_dX9_readsTerm_86 rfl
theorem dX9_readsTerm_125 : decode cX9_readsTerm 125 = .ok (.iload_n 3, 1) := zdcg 22 zdT_dX9_readsTerm_86 rfl
theorem dX9_readsTerm_126 : decode cX9_readsTerm 126 = .ok (.laload, 1) := zdcg 23 zdT_dX9_readsTerm_86 rfl
theorem dX9_readsTerm_127 : decode cX9_readsTerm 127 = .ok (.invokestatic 421, 3) := zdcg 24 zdT_dX9_readsTerm_86 rfl
theorem zdT_dX9_readsTerm_130 : zdch cX9_readsTerm [(130, (.ldc2_w 416, 3)), (133, (.lload 4, 2)), (135, (.invokestatic 421, 3)), (138, (.ldiv, 1)), (139, (.lcmp, 1)), (140, (.ifCond .gt 7, 3)), (143, (.iconst 1, 1)), (144, (.goto 4, 3)), (147, (.iconst 0, 1)), (148, (.istore_n 2, 1)), (149, (.aload_n 0, 1)), (150, (.getfield 137, 3)), (153, (.bipush 11, 2)), (155, (.aload_n 0, 1)), (156, (.getfield 396, 3)), (159, (.imul, 1)), (160, (.iload_n 3, 1)), (161, (.iadd, 1)), (162, (.lload 4, 2)), (164, (.aload_n 0, 1)), (165, (.getfield 140, 3)), (168, (.iload_n 3, 1)), (169, (.laload, 1)), (170, (.lmul, 1)), (171, (.lastore, 1))] = true := by decide +kernel
theorem dX9_readsTerm_130 : decode cX9_readsTerm 130 = .ok (.ldc2_w 416, 3) := zdcg 0 zdT_dX9_readsTerm_130 rfl
theorem dX9_readsTerm_133 : decode cX9_readsTerm 133 = .ok (.lload 4, 2) := zdcg 1 zdT_dX9_readsTerm_130 rfl
theorem dX9_readsTerm_135 : decode cX9_readsTerm 135 = .ok (.invokestatic 421, 3) := zdcg 2 zdT_dX9_readsTerm_130 rfl
theorem dX9_readsTerm_138 : decode cX9_readsTerm 138 = .ok (.ldiv, 1) := zdcg 3 zdT_dX9_readsTerm_130 rfl
theorem dX9_readsTerm_139 : decode cX9_readsTerm 139 = .ok (.lcmp, 1) := zdcg 4 zdT_dX9_readsTerm_130 rfl
theorem dX9_readsTerm_140 : decode cX9_readsTerm 140 = .ok (.ifCond .gt 7, 3) := zdcg 5 zdT_dX9_readsTerm_130 rfl
theorem dX9_readsTerm_143 : decode cX9_readsTerm 143 = .ok (.iconst 1, 1) := zdcg 6 zdT_dX9_readsTerm_130 rfl
theorem dX9_readsTerm_144 : decode cX9_readsTerm 144 = .ok (.goto 4, 3) := zdcg 7 zdT_dX9_readsTerm_130 rfl
theorem dX9_readsTerm_147 : decode cX9_readsTerm 147 = .ok (.iconst 0, 1) := zdcg 8 zdT_dX9_readsTerm_130 rfl
theorem dX9_readsTerm_148 : decode cX9_readsTerm 148 = .ok (.istore_n 2, 1) := zdcg 9 zdT_dX9_readsTerm_130 rfl
theorem dX9_readsTerm_149 : decode cX9_readsTerm 149 = .ok (.aload_n 0, 1) := zdcg 10 zdT_dX9_readsTerm_130 rfl
theorem dX9_readsTerm_150 : decode cX9_readsTerm 150 = .ok (.getfield 137, 3) := zdcg 11 zdT_dX9_readsTerm_130 rfl
theorem dX9_readsTerm_153 : decode cX9_readsTerm 153 = .ok (.bipush 11, 2) := zdcg 12 zdT_dX9_readsTerm_130 rfl
theorem dX9_readsTerm_155 : decode cX9_readsTerm 155 = .ok (.aload_n 0, 1) := zdcg 13 zdT_dX9_readsTerm_130 rfl
theorem dX9_readsTerm_156 : decode cX9_readsTerm 156 = .ok (.getfield 396, 3) := zdcg 14 zdT_dX9_readsTerm_130 rfl
theorem dX9_readsTerm_159 : decode cX9_readsTerm 159 = .ok (.imul, 1) := zdcg 15 zdT_dX9_readsTerm_130 rfl
theorem dX9_readsTerm_160 : decode cX9_readsTerm 160 = .ok (.iload_n 3, 1) := zdcg 16 zdT_dX9_readsTerm_130 rfl
theorem dX9_readsTerm_161 : decode cX9_readsTerm 161 = .ok (.iadd, 1) := zdcg 17 zdT_dX9_readsTerm_130 rfl
theorem dX9_readsTerm_162 : decode cX9_readsTerm 162 = .ok (.lload 4, 2) := zdcg 18 zdT_dX9_readsTerm_130 rfl
theorem dX9_readsTerm_164 : decode cX9_readsTerm 164 = .ok (.aload_n 0, 1) := zdcg 19 zdT_dX9_readsTerm_130 rfl
theorem dX9_readsTerm_165 : decode cX9_readsTerm 165 = .ok (.getfield 140, 3) := zdcg 20 zdT_dX9_readsTerm_130 rfl
theorem dX9_readsTerm_168 : decode cX9_readsTerm 168 = .ok (.iload_n 3, 1) := zdcg 21 zdT_dX9_readsTerm_130 rfl
theorem dX9_readsTerm_169 : decode cX9_readsTerm 169 = .ok (.laload, 1) := zdcg 22 zdT_dX9_readsTerm_130 rfl
theorem dX9_readsTerm_170 : decode cX9_readsTerm 170 = .ok (.lmul, 1) := zdcg 23 zdT_dX9_readsTerm_130 rfl
theorem dX9_readsTerm_171 : decode cX9_readsTerm 171 = .ok (.lastore, 1) := zdcg 24 zdT_dX9_readsTerm_130 rfl
theorem zdT_dX9_readsTerm_172 : zdch cX9_readsTerm [(172, (.iinc 3 1, 3)), (175, (.goto (-89), 3)), (178, (.iload_n 2, 1)), (179, (.ifCond .ne 11, 3)), (182, (.aload_n 0, 1)), (183, (.bipush 6, 2)), (185, (.iload_n 1, 1)), (186, (.invokevirtual 377, 3)), (189, (.ireturn, 1)), (190, (.goto (-141), 3)), (193, (.aload_n 0, 1)), (194, (.dup, 1)), (195, (.getfield 359, 3)), (198, (.iconst 1, 1)), (199, (.isub, 1)), (200, (.putfield 359, 3)), (203, (.iconst 1, 1)), (204, (.ireturn, 1))] = true := by decide +kernel
theorem dX9_readsTerm_172 : decode cX9_readsTerm 172 = .ok (.iinc 3 1, 3) := zdcg 0 zdT_dX9_readsTerm_172 rfl
theorem dX9_readsTerm_175 : decode cX9_readsTerm 175 = .ok (.goto (-89), 3) := zdcg 1 zdT_dX9_readsTerm_172 rfl
theorem dX9_readsTerm_178 : decode cX9_readsTerm 178 = .ok (.iload_n 2, 1) := zdcg 2 zdT_dX9_readsTerm_172 rfl
theorem dX9_readsTerm_179 : decode cX9_readsTerm 179 = .ok (.ifCond .ne 11, 3) := zdcg 3 zdT_dX9_readsTerm_172 rfl
theorem dX9_readsTerm_182 : decode cX9_readsTerm 182 = .ok (.aload_n 0, 1) := zdcg 4 zdT_dX9_readsTerm_172 rfl
theorem dX9_readsTerm_183 : decode cX9_readsTerm 183 = .ok (.bipush 6, 2) := zdcg 5 zdT_dX9_readsTerm_172 rfl
theorem dX9_readsTerm_185 : decode cX9_readsTerm 185 = .ok (.iload_n 1, 1) := zdcg 6 zdT_dX9_readsTerm_172 rfl
theorem dX9_readsTerm_186 : decode cX9_readsTerm 186 = .ok (.invokevirtual 377, 3) := zdcg 7 zdT_dX9_readsTerm_172 rfl
theorem dX9_readsTerm_189 : decode cX9_readsTerm 189 = .ok (.ireturn, 1) := zdcg 8 zdT_dX9_readsTerm_172 rfl
theorem dX9_readsTerm_190 : decode cX9_readsTerm 190 = .ok (.goto (-141), 3) := zdcg 9 zdT_dX9_readsTerm_172 rfl
theorem dX9_readsTerm_193 : decode cX9_readsTerm 193 = .ok (.aload_n 0, 1) := zdcg 10 zdT_dX9_readsTerm_172 rfl
theorem dX9_readsTerm_194 : decode cX9_readsTerm 194 = .ok (.dup, 1) := zdcg 11 zdT_dX9_readsTerm_172 rfl
theorem dX9_readsTerm_195 : decode cX9_readsTerm 195 = .ok (.getfield 359, 3) := zdcg 12 zdT_dX9_readsTerm_172 rfl
theorem dX9_readsTerm_198 : decode cX9_readsTerm 198 = .ok (.iconst 1, 1) := zdcg 13 zdT_dX9_readsTerm_172 rfl
theorem dX9_readsTerm_199 : decode cX9_readsTerm 199 = .ok (.isub, 1) := zdcg 14 zdT_dX9_readsTerm_172 rfl
theorem dX9_readsTerm_200 : decode cX9_readsTerm 200 = .ok (.putfield 359, 3) := zdcg 15 zdT_dX9_readsTerm_172 rfl
theorem dX9_readsTerm_203 : decode cX9_readsTerm 203 = .ok (.iconst 1, 1) := zdcg 16 zdT_dX9_readsTerm_172 rfl
theorem dX9_readsTerm_204 : decode cX9_readsTerm 204 = .ok (.ireturn, 1) := zdcg 17 zdT_dX9_readsTerm_172 rfl
theorem zdT_dX9_readsSum_0 : zdch cX9_readsSum [(0, (.aload_n 0, 1)), (1, (.invokevirtual 402, 3)), (4, (.aload_n 0, 1)), (5, (.invokevirtual 425, 3)), (8, (.ifCond .ne 5, 3)), (11, (.iconst 0, 1)), (12, (.ireturn, 1)), (13, (.iconst 0, 1)), (14, (.istore_n 1, 1)), (15, (.iload_n 1, 1)), (16, (.aload_n 0, 1)), (17, (.getfield 153, 3)), (20, (.if_icmp .ge 37, 3)), (23, (.aload_n 0, 1)), (24, (.getfield 134, 3)), (27, (.bipush 11, 2)), (29, (.aload_n 0, 1)), (30, (.getfield 396, 3)), (33, (.imul, 1)), (34, (.iload_n 1, 1)), (35, (.iadd, 1)), (36, (.aload_n 0, 1)), (37, (.getfield 137, 3)), (40, (.bipush 11, 2)), (42, (.aload_n 0, 1))] = true := by decide +kernel
theorem dX9_readsSum_0 : decode cX9_readsSum 0 = .ok (.aload_n 0, 1) := zdcg 0 zdT_dX9_readsSum_0 rfl
theorem dX9_readsSum_1 : decode cX9_readsSum 1 = .ok (.invokevirtual 402, 3) := zdcg 1 zdT_dX9_readsSum_0 rfl
theorem dX9_readsSum_4 : decode cX9_readsSum 4 = .ok (.aload_n 0, 1) := zdcg 2 zdT_dX9_readsSum_0 rfl
theorem dX9_readsSum_5 : decode cX9_readsSum 5 = .ok (.invokevirtual 425, 3) := zdcg 3 zdT_dX9_readsSum_0 rfl
theorem dX9_readsSum_8 : decode cX9_readsSum 8 = .ok (.ifCond .ne 5, 3) := zdcg 4 zdT_dX9_readsSum_0 rfl
theorem dX9_readsSum_11 : decode cX9_readsSum 11 = .ok (.iconst 0, 1) := zdcg 5 zdT_dX9_readsSum_0 rfl
theorem dX9_readsSum_12 : decode cX9_readsSum 12 = .ok (.ireturn, 1) := zdcg 6 zdT_dX9_readsSum_0 rfl
theorem dX9_readsSum_13 : decode cX9_readsSum 13 = .ok (.iconst 0, 1) := zdcg 7 zdT_dX9_readsSum_0 rfl
theorem dX9_readsSum_14 : decode cX9_readsSum 14 = .ok (.istore_n 1, 1) := zdcg 8 zdT_dX9_readsSum_0 rfl
theorem dX9_readsSum_15 : decode cX9_readsSum 15 = .ok (.iload_n 1, 1) := zdcg 9 zdT_dX9_readsSum_0 rfl
theorem dX9_readsSum_16 : decode cX9_readsSum 16 = .ok (.aload_n 0, 1) := zdcg 10 zdT_dX9_readsSum_0 rfl
theorem dX9_readsSum_17 : decode cX9_readsSum 17 = .ok (.getfield 153, 3) := zdcg 11 zdT_dX9_readsSum_0 rfl
theorem dX9_readsSum_20 : decode cX9_readsSum 20 = .ok (.if_icmp .ge 37, 3) := zdcg 12 zdT_dX9_readsSum_0 rfl
theorem dX9_readsSum_23 : decode cX9_readsSum 23 = .ok (.aload_n 0, 1) := zdcg 13 zdT_dX9_readsSum_0 rfl
theorem dX9_readsSum_24 : decode cX9_readsSum 24 = .ok (.getfield 134, 3) := zdcg 14 zdT_dX9_readsSum_0 rfl
theorem dX9_readsSum_27 : decode cX9_readsSum 27 = .ok (.bipush 11, 2) := zdcg 15 zdT_dX9_readsSum_0 rfl
theorem dX9_readsSum_29 : decode cX9_readsSum 29 = .ok (.aload_n 0, 1) := zdcg 16 zdT_dX9_readsSum_0 rfl
theorem dX9_readsSum_30 : decode cX9_readsSum 30 = .ok (.getfield 396, 3) := zdcg 17 zdT_dX9_readsSum_0 rfl
theorem dX9_readsSum_33 : decode cX9_readsSum 33 = .ok (.imul, 1) := zdcg 18 zdT_dX9_readsSum_0 rfl
theorem dX9_readsSum_34 : decode cX9_readsSum 34 = .ok (.iload_n 1, 1) := zdcg 19 zdT_dX9_readsSum_0 rfl
theorem dX9_readsSum_35 : decode cX9_readsSum 35 = .ok (.iadd, 1) := zdcg 20 zdT_dX9_readsSum_0 rfl
theorem dX9_readsSum_36 : decode cX9_readsSum 36 = .ok (.aload_n 0, 1) := zdcg 21 zdT_dX9_readsSum_0 rfl
theorem dX9_readsSum_37 : decode cX9_readsSum 37 = .ok (.getfield 137, 3) := zdcg 22 zdT_dX9_readsSum_0 rfl
theorem dX9_readsSum_40 : decode cX9_readsSum 40 = .ok (.bipush 11, 2) := zdcg 23 zdT_dX9_readsSum_0 rfl
theorem dX9_readsSum_42 : decode cX9_readsSum 42 = .ok (.aload_n 0, 1) := zdcg 24 zdT_dX9_readsSum_0 rfl
theorem zdT_dX9_readsSum_43 : zdch cX9_readsSum [(43, (.getfield 396, 3)), (46, (.imul, 1)), (47, (.iload_n 1, 1)), (48, (.iadd, 1)), (49, (.laload, 1)), (50, (.lastore, 1)), (51, (.iinc 1 1, 3)), (54, (.goto (-39), 3)), (57, (.aload_n 0, 1)), (58, (.invokevirtual 364, 3)), (61, (.bipush 43, 2)), (63, (.if_icmp .eq 12, 3)), (66, (.aload_n 0, 1)), (67, (.invokevirtual 364, 3)), (70, (.bipush 45, 2)), (72, (.if_icmp .ne 119, 3)), (75, (.aload_n 0, 1)), (76, (.getfield 353, 3)), (79, (.istore_n 1, 1)), (80, (.aload_n 0, 1)), (81, (.getfield 121, 3)), (84, (.aload_n 0, 1)), (85, (.getfield 353, 3)), (88, (.iaload, 1)), (89, (.bipush 43, 2))] = true := by decide +kernel
theorem dX9_readsSum_43 : decode cX9_readsSum 43 = .ok (.getfield 396, 3) := zdcg 0 zdT_dX9_readsSum_43 rfl
theorem dX9_readsSum_46 : decode cX9_readsSum 46 = .ok (.imul, 1) := zdcg 1 zdT_dX9_readsSum_43 rfl
theorem dX9_readsSum_47 : decode cX9_readsSum 47 = .ok (.iload_n 1, 1) := zdcg 2 zdT_dX9_readsSum_43 rfl
theorem dX9_readsSum_48 : decode cX9_readsSum 48 = .ok (.iadd, 1) := zdcg 3 zdT_dX9_readsSum_43 rfl
theorem dX9_readsSum_49 : decode cX9_readsSum 49 = .ok (.laload, 1) := zdcg 4 zdT_dX9_readsSum_43 rfl
theorem dX9_readsSum_50 : decode cX9_readsSum 50 = .ok (.lastore, 1) := zdcg 5 zdT_dX9_readsSum_43 rfl
theorem dX9_readsSum_51 : decode cX9_readsSum 51 = .ok (.iinc 1 1, 3) := zdcg 6 zdT_dX9_readsSum_43 rfl
theorem dX9_readsSum_54 : decode cX9_readsSum 54 = .ok (.goto (-39), 3) := zdcg 7 zdT_dX9_readsSum_43 rfl
theorem dX9_readsSum_57 : decode cX9_readsSum 57 = .ok (.aload_n 0, 1) := zdcg 8 zdT_dX9_readsSum_43 rfl
theorem dX9_readsSum_58 : decode cX9_readsSum 58 = .ok (.invokevirtual 364, 3) := zdcg 9 zdT_dX9_readsSum_43 rfl
theorem dX9_readsSum_61 : decode cX9_readsSum 61 = .ok (.bipush 43, 2) := zdcg 10 zdT_dX9_readsSum_43 rfl
theorem dX9_readsSum_63 : decode cX9_readsSum 63 = .ok (.if_icmp .eq 12, 3) := zdcg 11 zdT_dX9_readsSum_43 rfl
theorem dX9_readsSum_66 : decode cX9_readsSum 66 = .ok (.aload_n 0, 1) := zdcg 12 zdT_dX9_readsSum_43 rfl
theorem dX9_readsSum_67 : decode cX9_readsSum 67 = .ok (.invokevirtual 364, 3) := zdcg 13 zdT_dX9_readsSum_43 rfl
theorem dX9_readsSum_70 : decode cX9_readsSum 70 = .ok (.bipush 45, 2) := zdcg 14 zdT_dX9_readsSum_43 rfl
theorem dX9_readsSum_72 : decode cX9_readsSum 72 = .ok (.if_icmp .ne 119, 3) := zdcg 15 zdT_dX9_readsSum_43 rfl
theorem dX9_readsSum_75 : decode cX9_readsSum 75 = .ok (.aload_n 0, 1) := zdcg 16 zdT_dX9_readsSum_43 rfl
theorem dX9_readsSum_76 : decode cX9_readsSum 76 = .ok (.getfield 353, 3) := zdcg 17 zdT_dX9_readsSum_43 rfl
theorem dX9_readsSum_79 : decode cX9_readsSum 79 = .ok (.istore_n 1, 1) := zdcg 18 zdT_dX9_readsSum_43 rfl
theorem dX9_readsSum_80 : decode cX9_readsSum 80 = .ok (.aload_n 0, 1) := zdcg 19 zdT_dX9_readsSum_43 rfl
theorem dX9_readsSum_81 : decode cX9_readsSum 81 = .ok (.getfield 121, 3) := zdcg 20 zdT_dX9_readsSum_43 rfl
theorem dX9_readsSum_84 : decode cX9_readsSum 84 = .ok (.aload_n 0, 1) := zdcg 21 zdT_dX9_readsSum_43 rfl
theorem dX9_readsSum_85 : decode cX9_readsSum 85 = .ok (.getfield 353, 3) := zdcg 22 zdT_dX9_readsSum_43 rfl
theorem dX9_readsSum_88 : decode cX9_readsSum 88 = .ok (.iaload, 1) := zdcg 23 zdT_dX9_readsSum_43 rfl
theorem dX9_readsSum_89 : decode cX9_readsSum 89 = .ok (.bipush 43, 2) := zdcg 24 zdT_dX9_readsSum_43 rfl
theorem zdT_dX9_readsSum_91 : zdch cX9_readsSum [(91, (.if_icmp .ne 7, 3)), (94, (.iconst 1, 1)), (95, (.goto 4, 3)), (98, (.iconst (-1), 1)), (99, (.istore_n 2, 1)), (100, (.aload_n 0, 1)), (101, (.dup, 1)), (102, (.getfield 353, 3)), (105, (.iconst 1, 1)), (106, (.iadd, 1)), (107, (.putfield 353, 3)), (110, (.aload_n 0, 1)), (111, (.invokevirtual 425, 3)), (114, (.ifCond .ne 5, 3)), (117, (.iconst 0, 1)), (118, (.ireturn, 1)), (119, (.iconst 0, 1)), (120, (.istore_n 3, 1)), (121, (.iload_n 3, 1)), (122, (.aload_n 0, 1)), (123, (.getfield 153, 3)), (126, (.if_icmp .ge 43, 3)), (129, (.aload_n 0, 1)), (130, (.getfield 134, 3)), (133, (.bipush 11, 2))] = true := by decide +kernel
theorem dX9_readsSum_91 : decode cX9_readsSum 91 = .ok (.if_icmp .ne 7, 3) := zdcg 0 zdT_dX9_readsSum_91 rfl
theorem dX9_readsSum_94 : decode cX9_readsSum 94 = .ok (.iconst 1, 1) := zdcg 1 zdT_dX9_readsSum_91 rfl
theorem dX9_readsSum_95 : decode cX9_readsSum 95 = .ok (.goto 4, 3) := zdcg 2 zdT_dX9_readsSum_91 rfl
theorem dX9_readsSum_98 : decode cX9_readsSum 98 = .ok (.iconst (-1), 1) := zdcg 3 zdT_dX9_readsSum_91 rfl
theorem dX9_readsSum_99 : decode cX9_readsSum 99 = .ok (.istore_n 2, 1) := zdcg 4 zdT_dX9_readsSum_91 rfl
theorem dX9_readsSum_100 : decode cX9_readsSum 100 = .ok (.aload_n 0, 1) := zdcg 5 zdT_dX9_readsSum_91 rfl
theorem dX9_readsSum_101 : decode cX9_readsSum 101 = .ok (.dup, 1) := zdcg 6 zdT_dX9_readsSum_91 rfl
theorem dX9_readsSum_102 : decode cX9_readsSum 102 = .ok (.getfield 353, 3) := zdcg 7 zdT_dX9_readsSum_91 rfl
theorem dX9_readsSum_105 : decode cX9_readsSum 105 = .ok (.iconst 1, 1) := zdcg 8 zdT_dX9_readsSum_91 rfl
theorem dX9_readsSum_106 : decode cX9_readsSum 106 = .ok (.iadd, 1) := zdcg 9 zdT_dX9_readsSum_91 rfl
theorem dX9_readsSum_107 : decode cX9_readsSum 107 = .ok (.putfield 353, 3) := zdcg 10 zdT_dX9_readsSum_91 rfl
theorem dX9_readsSum_110 : decode cX9_readsSum 110 = .ok (.aload_n 0, 1) := zdcg 11 zdT_dX9_readsSum_91 rfl
theorem dX9_readsSum_111 : decode cX9_readsSum 111 = .ok (.invokevirtual 425, 3) := zdcg 12 zdT_dX9_readsSum_91 rfl
theorem dX9_readsSum_114 : decode cX9_readsSum 114 = .ok (.ifCond .ne 5, 3) := zdcg 13 zdT_dX9_readsSum_91 rfl
theorem dX9_readsSum_117 : decode cX9_readsSum 117 = .ok (.iconst 0, 1) := zdcg 14 zdT_dX9_readsSum_91 rfl
theorem dX9_readsSum_118 : decode cX9_readsSum 118 = .ok (.ireturn, 1) := zdcg 15 zdT_dX9_readsSum_91 rfl
theorem dX9_readsSum_119 : decode cX9_readsSum 119 = .ok (.iconst 0, 1) := zdcg 16 zdT_dX9_readsSum_91 rfl
theorem dX9_readsSum_120 : decode cX9_readsSum 120 = .ok (.istore_n 3, 1) := zdcg 17 zdT_dX9_readsSum_91 rfl
theorem dX9_readsSum_121 : decode cX9_readsSum 121 = .ok (.iload_n 3, 1) := zdcg 18 zdT_dX9_readsSum_91 rfl
theorem dX9_readsSum_122 : decode cX9_readsSum 122 = .ok (.aload_n 0, 1) := zdcg 19 zdT_dX9_readsSum_91 rfl
theorem dX9_readsSum_123 : decode cX9_readsSum 123 = .ok (.getfield 153, 3) := zdcg 20 zdT_dX9_readsSum_91 rfl
theorem dX9_readsSum_126 : decode cX9_readsSum 126 = .ok (.if_icmp .ge 43, 3) := zdcg 21 zdT_dX9_readsSum_91 rfl
theorem dX9_readsSum_129 : decode cX9_readsSum 129 = .ok (.aload_n 0, 1) := zdcg 22 zdT_dX9_readsSum_91 rfl
theorem dX9_readsSum_130 : decode cX9_readsSum 130 = .ok (.getfield 134, 3) := zdcg 23 zdT_dX9_readsSum_91 rfl
theorem dX9_readsSum_133 : decode cX9_readsSum 133 = .ok (.bipush 11, 2) := zdcg 24 zdT_dX9_readsSum_91 rfl
theorem zdT_dX9_readsSum_135 : zdch cX9_readsSum [(135, (.aload_n 0, 1)), (136, (.getfield 396, 3)), (139, (.imul, 1)), (140, (.iload_n 3, 1)), (141, (.iadd, 1)), (142, (.dup2, 1)), (143, (.laload, 1)), (144, (.iload_n 2, 1)), (145, (.i2l, 1)), (146, (.aload_n 0, 1)), (147, (.getfield 137, 3)), (150, (.bipush 11, 2)), (152, (.aload_n 0, 1)), (153, (.getfield 396, 3)), (156, (.imul, 1)), (157, (.iload_n 3, 1)), (158, (.iadd, 1)), (159, (.laload, 1)), (160, (.lmul, 1)), (161, (.ladd, 1)), (162, (.lastore, 1)), (163, (.iinc 3 1, 3)), (166, (.goto (-45), 3)), (169, (.aload_n 0, 1)), (170, (.aload_n 0, 1))] = true := by decide +kernel
theorem dX9_readsSum_135 : decode cX9_readsSum 135 = .ok (.aload_n 0, 1) := zdcg 0 zdT_dX9_readsSum_135 rfl
theorem dX9_readsSum_136 : decode cX9_readsSum 136 = .ok (.getfield 396, 3) := zdcg 1 zdT_dX9_readsSum_135 rfl
theorem dX9_readsSum_139 : decode cX9_readsSum 139 = .ok (.imul, 1) := zdcg 2 zdT_dX9_readsSum_135 rfl
theorem dX9_readsSum_140 : decode cX9_readsSum 140 = .ok (.iload_n 3, 1) := zdcg 3 zdT_dX9_readsSum_135 rfl
theorem dX9_readsSum_141 : decode cX9_readsSum 141 = .ok (.iadd, 1) := zdcg 4 zdT_dX9_readsSum_135 rfl
theorem dX9_readsSum_142 : decode cX9_readsSum 142 = .ok (.dup2, 1) := zdcg 5 zdT_dX9_readsSum_135 rfl
theorem dX9_readsSum_143 : decode cX9_readsSum 143 = .ok (.laload, 1) := zdcg 6 zdT_dX9_readsSum_135 rfl
theorem dX9_readsSum_144 : decode cX9_readsSum 144 = .ok (.iload_n 2, 1) := zdcg 7 zdT_dX9_readsSum_135 rfl
theorem dX9_readsSum_145 : decode cX9_readsSum 145 = .ok (.i2l, 1) := zdcg 8 zdT_dX9_readsSum_135 rfl
theorem dX9_readsSum_146 : decode cX9_readsSum 146 = .ok (.aload_n 0, 1) := zdcg 9 zdT_dX9_readsSum_135 rfl
theorem dX9_readsSum_147 : decode cX9_readsSum 147 = .ok (.getfield 137, 3) := zdcg 10 zdT_dX9_readsSum_135 rfl
theorem dX9_readsSum_150 : decode cX9_readsSum 150 = .ok (.bipush 11, 2) := zdcg 11 zdT_dX9_readsSum_135 rfl
theorem dX9_readsSum_152 : decode cX9_readsSum 152 = .ok (.aload_n 0, 1) := zdcg 12 zdT_dX9_readsSum_135 rfl
theorem dX9_readsSum_153 : decode cX9_readsSum 153 = .ok (.getfield 396, 3) := zdcg 13 zdT_dX9_readsSum_135 rfl
theorem dX9_readsSum_156 : decode cX9_readsSum 156 = .ok (.imul, 1) := zdcg 14 zdT_dX9_readsSum_135 rfl
theorem dX9_readsSum_157 : decode cX9_readsSum 157 = .ok (.iload_n 3, 1) := zdcg 15 zdT_dX9_readsSum_135 rfl
theorem dX9_readsSum_158 : decode cX9_readsSum 158 = .ok (.iadd, 1) := zdcg 16 zdT_dX9_readsSum_135 rfl
theorem dX9_readsSum_159 : decode cX9_readsSum 159 = .ok (.laload, 1) := zdcg 17 zdT_dX9_readsSum_135 rfl
theorem dX9_readsSum_160 : decode cX9_readsSum 160 = .ok (.lmul, 1) := zdcg 18 zdT_dX9_readsSum_135 rfl
theorem dX9_readsSum_161 : decode cX9_readsSum 161 = .ok (.ladd, 1) := zdcg 19 zdT_dX9_readsSum_135 rfl
theorem dX9_readsSum_162 : decode cX9_readsSum 162 = .ok (.lastore, 1) := zdcg 20 zdT_dX9_readsSum_135 rfl
theorem dX9_readsSum_163 : decode cX9_readsSum 163 = .ok (.iinc 3 1, 3) := zdcg 21 zdT_dX9_readsSum_135 rfl
theorem dX9_readsSum_166 : decode cX9_readsSum 166 = .ok (.goto (-45), 3) := zdcg 22 zdT_dX9_readsSum_135 rfl
theorem dX9_readsSum_169 : decode cX9_readsSum 169 = .ok (.aload_n 0, 1) := zdcg 23 zdT_dX9_readsSum_135 rfl
theorem dX9_readsSum_170 : decode cX9_readsSum 170 = .ok (.aload_n 0, 1) := zdcg 24 zdT_dX9_readsSum_135 rfl
theorem zdT_dX9_readsSum_171 : zdch cX9_readsSum [(171, (.getfield 134, 3)), (174, (.invokevirtual 428, 3)), (177, (.ifCond .ne 11, 3)), (180, (.aload_n 0, 1)), (181, (.bipush 6, 2)), (183, (.iload_n 1, 1)), (184, (.invokevirtual 377, 3)), (187, (.ireturn, 1)), (188, (.goto (-131), 3)), (191, (.aload_n 0, 1)), (192, (.dup, 1)), (193, (.getfield 359, 3)), (196, (.iconst 1, 1)), (197, (.isub, 1)), (198, (.putfield 359, 3)), (201, (.iconst 1, 1)), (202, (.ireturn, 1))] = true := by decide +kernel
theorem dX9_readsSum_171 : decode cX9_readsSum 171 = .ok (.getfield 134, 3) := zdcg 0 zdT_dX9_readsSum_171 rfl
theorem dX9_readsSum_174 : decode cX9_readsSum 174 = .ok (.invokevirtual 428, 3) := zdcg 1 zdT_dX9_readsSum_171 rfl
theorem dX9_readsSum_177 : decode cX9_readsSum 177 = .ok (.ifCond .ne 11, 3) := zdcg 2 zdT_dX9_readsSum_171 rfl
theorem dX9_readsSum_180 : decode cX9_readsSum 180 = .ok (.aload_n 0, 1) := zdcg 3 zdT_dX9_readsSum_171 rfl
theorem dX9_readsSum_181 : decode cX9_readsSum 181 = .ok (.bipush 6, 2) := zdcg 4 zdT_dX9_readsSum_171 rfl
theorem dX9_readsSum_183 : decode cX9_readsSum 183 = .ok (.iload_n 1, 1) := zdcg 5 zdT_dX9_readsSum_171 rfl
theorem dX9_readsSum_184 : decode cX9_readsSum 184 = .ok (.invokevirtual 377, 3) := zdcg 6 zdT_dX9_readsSum_171 rfl
theorem dX9_readsSum_187 : decode cX9_readsSum 187 = .ok (.ireturn, 1) := zdcg 7 zdT_dX9_readsSum_171 rfl
theorem dX9_readsSum_188 : decode cX9_readsSum 188 = .ok (.goto (-131), 3) := zdcg 8 zdT_dX9_readsSum_171 rfl
theorem dX9_readsSum_191 : decode cX9_readsSum 191 = .ok (.aload_n 0, 1) := zdcg 9 zdT_dX9_readsSum_171 rfl
theorem dX9_readsSum_192 : decode cX9_readsSum 192 = .ok (.dup, 1) := zdcg 10 zdT_dX9_readsSum_171 rfl
theorem dX9_readsSum_193 : decode cX9_readsSum 193 = .ok (.getfield 359, 3) := zdcg 11 zdT_dX9_readsSum_171 rfl
theorem dX9_readsSum_196 : decode cX9_readsSum 196 = .ok (.iconst 1, 1) := zdcg 12 zdT_dX9_readsSum_171 rfl
theorem dX9_readsSum_197 : decode cX9_readsSum 197 = .ok (.isub, 1) := zdcg 13 zdT_dX9_readsSum_171 rfl
theorem dX9_readsSum_198 : decode cX9_readsSum 198 = .ok (.putfield 359, 3) := zdcg 14 zdT_dX9_readsSum_171 rfl
theorem dX9_readsSum_201 : decode cX9_readsSum 201 = .ok (.iconst 1, 1) := zdcg 15 zdT_dX9_readsSum_171 rfl
theorem dX9_readsSum_202 : decode cX9_readsSum 202 = .ok (.ireturn, 1) := zdcg 16 zdT_dX9_readsSum_171 rfl
theorem zdT_dX9_text_0 : zdch cX9_text [(0, (.aload_n 0, 1)), (1, (.iconst 0, 1)), (2, (.putfield 356, 3)), (5, (.aload_n 0, 1)), (6, (.iconst (-1), 1)), (7, (.putfield 124, 3)), (10, (.aload_n 0, 1)), (11, (.iconst 0, 1)), (12, (.putfield 361, 3)), (15, (.aload_n 0, 1)), (16, (.iconst 0, 1)), (17, (.putfield 359, 3)), (20, (.aload_n 0, 1)), (21, (.iconst 0, 1)), (22, (.putfield 396, 3)), (25, (.aload_n 0, 1)), (26, (.iconst 0, 1)), (27, (.putfield 353, 3)), (30, (.iload_n 1, 1)), (31, (.invokestatic 319, 3)), (34, (.ifCond .eq 14, 3)), (37, (.aload_n 0, 1)), (38, (.invokevirtual 399, 3)), (41, (.ifCond .eq 7, 3)), (44, (.iconst 1, 1))] = true := by decide +kernel
theorem dX9_text_0 : decode cX9_text 0 = .ok (.aload_n 0, 1) := zdcg 0 zdT_dX9_text_0 rfl
theorem dX9_text_1 : decode cX9_text 1 = .ok (.iconst 0, 1) := zdcg 1 zdT_dX9_text_0 rfl
theorem dX9_text_2 : decode cX9_text 2 = .ok (.putfield 356, 3) := zdcg 2 zdT_dX9_text_0 rfl
theorem dX9_text_5 : decode cX9_text 5 = .ok (.aload_n 0, 1) := zdcg 3 zdT_dX9_text_0 rfl
theorem dX9_text_6 : decode cX9_text 6 = .ok (.iconst (-1), 1) := zdcg 4 zdT_dX9_text_0 rfl
theorem dX9_text_7 : decode cX9_text 7 = .ok (.putfield 124, 3) := zdcg 5 zdT_dX9_text_0 rfl
theorem dX9_text_10 : decode cX9_text 10 = .ok (.aload_n 0, 1) := zdcg 6 zdT_dX9_text_0 rfl
theorem dX9_text_11 : decode cX9_text 11 = .ok (.iconst 0, 1) := zdcg 7 zdT_dX9_text_0 rfl
theorem dX9_text_12 : decode cX9_text 12 = .ok (.putfield 361, 3) := zdcg 8 zdT_dX9_text_0 rfl
theorem dX9_text_15 : decode cX9_text 15 = .ok (.aload_n 0, 1) := zdcg 9 zdT_dX9_text_0 rfl
theorem dX9_text_16 : decode cX9_text 16 = .ok (.iconst 0, 1) := zdcg 10 zdT_dX9_text_0 rfl
theorem dX9_text_17 : decode cX9_text 17 = .ok (.putfield 359, 3) := zdcg 11 zdT_dX9_text_0 rfl
theorem dX9_text_20 : decode cX9_text 20 = .ok (.aload_n 0, 1) := zdcg 12 zdT_dX9_text_0 rfl
theorem dX9_text_21 : decode cX9_text 21 = .ok (.iconst 0, 1) := zdcg 13 zdT_dX9_text_0 rfl
theorem dX9_text_22 : decode cX9_text 22 = .ok (.putfield 396, 3) := zdcg 14 zdT_dX9_text_0 rfl
theorem dX9_text_25 : decode cX9_text 25 = .ok (.aload_n 0, 1) := zdcg 15 zdT_dX9_text_0 rfl
theorem dX9_text_26 : decode cX9_text 26 = .ok (.iconst 0, 1) := zdcg 16 zdT_dX9_text_0 rfl
theorem dX9_text_27 : decode cX9_text 27 = .ok (.putfield 353, 3) := zdcg 17 zdT_dX9_text_0 rfl
theorem dX9_text_30 : decode cX9_text 30 = .ok (.iload_n 1, 1) := zdcg 18 zdT_dX9_text_0 rfl
theorem dX9_text_31 : decode cX9_text 31 = .ok (.invokestatic 319, 3) := zdcg 19 zdT_dX9_text_0 rfl
theorem dX9_text_34 : decode cX9_text 34 = .ok (.ifCond .eq 14, 3) := zdcg 20 zdT_dX9_text_0 rfl
theorem dX9_text_37 : decode cX9_text 37 = .ok (.aload_n 0, 1) := zdcg 21 zdT_dX9_text_0 rfl
theorem dX9_text_38 : decode cX9_text 38 = .ok (.invokevirtual 399, 3) := zdcg 22 zdT_dX9_text_0 rfl
theorem dX9_text_41 : decode cX9_text 41 = .ok (.ifCond .eq 7, 3) := zdcg 23 zdT_dX9_text_0 rfl
theorem dX9_text_44 : decode cX9_text 44 = .ok (.iconst 1, 1) := zdcg 24 zdT_dX9_text_0 rfl
theorem zdT_dX9_text_45 : zdch cX9_text [(45, (.goto 4, 3)), (48, (.iconst 0, 1)), (49, (.istore_n 2, 1)), (50, (.iload_n 2, 1)), (51, (.ifCond .eq 21, 3)), (54, (.aload_n 0, 1)), (55, (.invokevirtual 364, 3)), (58, (.iconst (-1), 1)), (59, (.if_icmp .eq 13, 3)), (62, (.aload_n 0, 1)), (63, (.iconst 1, 1)), (64, (.aload_n 0, 1)), (65, (.getfield 353, 3)), (68, (.invokevirtual 377, 3)), (71, (.istore_n 2, 1)), (72, (.aload_n 0, 1)), (73, (.iconst 0, 1)), (74, (.putfield 347, 3)), (77, (.iload_n 1, 1)), (78, (.invokestatic 319, 3)), (81, (.ifCond .ne 6, 3)), (84, (.bipush (-2), 2)), (86, (.ireturn, 1)), (87, (.iload_n 2, 1)), (88, (.ifCond .ne 5, 3))] = true := by decide +kernel
theorem dX9_text_45 : decode cX9_text 45 = .ok (.goto 4, 3) := zdcg 0 zdT_dX9_text_45 rfl
theorem dX9_text_48 : decode cX9_text 48 = .ok (.iconst 0, 1) := zdcg 1 zdT_dX9_text_45 rfl
theorem dX9_text_49 : decode cX9_text 49 = .ok (.istore_n 2, 1) := zdcg 2 zdT_dX9_text_45 rfl
theorem dX9_text_50 : decode cX9_text 50 = .ok (.iload_n 2, 1) := zdcg 3 zdT_dX9_text_45 rfl
theorem dX9_text_51 : decode cX9_text 51 = .ok (.ifCond .eq 21, 3) := zdcg 4 zdT_dX9_text_45 rfl
theorem dX9_text_54 : decode cX9_text 54 = .ok (.aload_n 0, 1) := zdcg 5 zdT_dX9_text_45 rfl
theorem dX9_text_55 : decode cX9_text 55 = .ok (.invokevirtual 364, 3) := zdcg 6 zdT_dX9_text_45 rfl
theorem dX9_text_58 : decode cX9_text 58 = .ok (.iconst (-1), 1) := zdcg 7 zdT_dX9_text_45 rfl
theorem dX9_text_59 : decode cX9_text 59 = .ok (.if_icmp .eq 13, 3) := zdcg 8 zdT_dX9_text_45 rfl
theorem dX9_text_62 : decode cX9_text 62 = .ok (.aload_n 0, 1) := zdcg 9 zdT_dX9_text_45 rfl
theorem dX9_text_63 : decode cX9_text 63 = .ok (.iconst 1, 1) := zdcg 10 zdT_dX9_text_45 rfl
theorem dX9_text_64 : decode cX9_text 64 = .ok (.aload_n 0, 1) := zdcg 11 zdT_dX9_text_45 rfl
theorem dX9_text_65 : decode cX9_text 65 = .ok (.getfield 353, 3) := zdcg 12 zdT_dX9_text_45 rfl
theorem dX9_text_68 : decode cX9_text 68 = .ok (.invokevirtual 377, 3) := zdcg 13 zdT_dX9_text_45 rfl
theorem dX9_text_71 : decode cX9_text 71 = .ok (.istore_n 2, 1) := zdcg 14 zdT_dX9_text_45 rfl
theorem dX9_text_72 : decode cX9_text 72 = .ok (.aload_n 0, 1) := zdcg 15 zdT_dX9_text_45 rfl
theorem dX9_text_73 : decode cX9_text 73 = .ok (.iconst 0, 1) := zdcg 16 zdT_dX9_text_45 rfl
theorem dX9_text_74 : decode cX9_text 74 = .ok (.putfield 347, 3) := zdcg 17 zdT_dX9_text_45 rfl
theorem dX9_text_77 : decode cX9_text 77 = .ok (.iload_n 1, 1) := zdcg 18 zdT_dX9_text_45 rfl
theorem dX9_text_78 : decode cX9_text 78 = .ok (.invokestatic 319, 3) := zdcg 19 zdT_dX9_text_45 rfl
theorem dX9_text_81 : decode cX9_text 81 = .ok (.ifCond .ne 6, 3) := zdcg 20 zdT_dX9_text_45 rfl
theorem dX9_text_84 : decode cX9_text 84 = .ok (.bipush (-2), 2) := zdcg 21 zdT_dX9_text_45 rfl
theorem dX9_text_86 : decode cX9_text 86 = .ok (.ireturn, 1) := zdcg 22 zdT_dX9_text_45 rfl
theorem dX9_text_87 : decode cX9_text 87 = .ok (.iload_n 2, 1) := zdcg 23 zdT_dX9_text_45 rfl
theorem dX9_text_88 : decode cX9_text 88 = .ok (.ifCond .ne 5, 3) := zdcg 24 zdT_dX9_text_45 rfl
theorem zdT_dX9_text_91 : zdch cX9_text [(91, (.iconst (-1), 1)), (92, (.ireturn, 1)), (93, (.iconst 0, 1)), (94, (.istore_n 3, 1)), (95, (.iload_n 3, 1)), (96, (.aload_n 0, 1)), (97, (.getfield 153, 3)), (100, (.if_icmp .ge 26, 3)), (103, (.aload_n 0, 1)), (104, (.getfield 115, 3)), (107, (.bipush 11, 2)), (109, (.iload_n 1, 1)), (110, (.imul, 1)), (111, (.iload_n 3, 1)), (112, (.iadd, 1)), (113, (.aload_n 0, 1)), (114, (.getfield 134, 3)), (117, (.iload_n 3, 1)), (118, (.laload, 1)), (119, (.lastore, 1)), (120, (.iinc 3 1, 3)), (123, (.goto (-28), 3)), (126, (.iconst 0, 1)), (127, (.ireturn, 1))] = true := by decide +kernel
theorem dX9_text_91 : decode cX9_text 91 = .ok (.iconst (-1), 1) := zdcg 0 zdT_dX9_text_91 rfl
theorem dX9_text_92 : decode cX9_text 92 = .ok (.ireturn, 1) := zdcg 1 zdT_dX9_text_91 rfl
theorem dX9_text_93 : decode cX9_text 93 = .ok (.iconst 0, 1) := zdcg 2 zdT_dX9_text_91 rfl
theorem dX9_text_94 : decode cX9_text 94 = .ok (.istore_n 3, 1) := zdcg 3 zdT_dX9_text_91 rfl
theorem dX9_text_95 : decode cX9_text 95 = .ok (.iload_n 3, 1) := zdcg 4 zdT_dX9_text_91 rfl
theorem dX9_text_96 : decode cX9_text 96 = .ok (.aload_n 0, 1) := zdcg 5 zdT_dX9_text_91 rfl
theorem dX9_text_97 : decode cX9_text 97 = .ok (.getfield 153, 3) := zdcg 6 zdT_dX9_text_91 rfl
theorem dX9_text_100 : decode cX9_text 100 = .ok (.if_icmp .ge 26, 3) := zdcg 7 zdT_dX9_text_91 rfl
theorem dX9_text_103 : decode cX9_text 103 = .ok (.aload_n 0, 1) := zdcg 8 zdT_dX9_text_91 rfl
theorem dX9_text_104 : decode cX9_text 104 = .ok (.getfield 115, 3) := zdcg 9 zdT_dX9_text_91 rfl
theorem dX9_text_107 : decode cX9_text 107 = .ok (.bipush 11, 2) := zdcg 10 zdT_dX9_text_91 rfl
theorem dX9_text_109 : decode cX9_text 109 = .ok (.iload_n 1, 1) := zdcg 11 zdT_dX9_text_91 rfl
theorem dX9_text_110 : decode cX9_text 110 = .ok (.imul, 1) := zdcg 12 zdT_dX9_text_91 rfl
theorem dX9_text_111 : decode cX9_text 111 = .ok (.iload_n 3, 1) := zdcg 13 zdT_dX9_text_91 rfl
theorem dX9_text_112 : decode cX9_text 112 = .ok (.iadd, 1) := zdcg 14 zdT_dX9_text_91 rfl
theorem dX9_text_113 : decode cX9_text 113 = .ok (.aload_n 0, 1) := zdcg 15 zdT_dX9_text_91 rfl
theorem dX9_text_114 : decode cX9_text 114 = .ok (.getfield 134, 3) := zdcg 16 zdT_dX9_text_91 rfl
theorem dX9_text_117 : decode cX9_text 117 = .ok (.iload_n 3, 1) := zdcg 17 zdT_dX9_text_91 rfl
theorem dX9_text_118 : decode cX9_text 118 = .ok (.laload, 1) := zdcg 18 zdT_dX9_text_91 rfl
theorem dX9_text_119 : decode cX9_text 119 = .ok (.lastore, 1) := zdcg 19 zdT_dX9_text_91 rfl
theorem dX9_text_120 : decode cX9_text 120 = .ok (.iinc 3 1, 3) := zdcg 20 zdT_dX9_text_91 rfl
theorem dX9_text_123 : decode cX9_text 123 = .ok (.goto (-28), 3) := zdcg 21 zdT_dX9_text_91 rfl
theorem dX9_text_126 : decode cX9_text 126 = .ok (.iconst 0, 1) := zdcg 22 zdT_dX9_text_91 rfl
theorem dX9_text_127 : decode cX9_text 127 = .ok (.ireturn, 1) := zdcg 23 zdT_dX9_text_91 rfl
end
section
/-! links, by program -/
theorem gf_X9_353 [zGh] {d : Nat} {X : zM} {fr : Nat} {P : zP d} {pc : Nat} {k : zK d} (h1 : X.1 = RX9) (dg : decode X.2.1 pc = .ok (.getfield 353, 3)) (hs : zSim X fr P (pc + 3) k) : zSim X fr P pc (xgfI 25 47 k) := sm_getfieldI (ci := 9) (n := 47) (C := RX9) (T := TX9) (N := 63) rfl rfl inz9 rfl (by decide) rfl (by rw [h1]; exact wd_1065) rfl dg hs
theorem pf_X9_353 [zGh] {d : Nat} {X : zM} {fr : Nat} {P : zP d} {pc : Nat} {k : zK d} (h1 : X.1 = RX9) (dg : decode X.2.1 pc = .ok (.putfield 353, 3)) (hs : zSim X fr P (pc + 3) k) : zSim X fr P pc (xpfI 25 47 k) := sm_putI (ci := 9) (n := 47) (ty := tyX9 47) rfl (by decide) rfl rfl (zput (C := RX9) (T := TX9) (N := 63) (ty0 := tyX9) (ty := tyX9 47) inz9 tyX9_ok nmX9 rfl (by decide) (by rw [h1]; exact wd_1065) rfl rfl dg) hs
theorem pf_X9_356 [zGh] {d : Nat} {X : zM} {fr : Nat} {P : zP d} {pc : Nat} {k : zK d} (h1 : X.1 = RX9) (dg : decode X.2.1 pc = .ok (.putfield 356, 3)) (hs : zSim X fr P (pc + 3) k) : zSim X fr P pc (xpfI 25 48 k) := sm_putI (ci := 9) (n := 48) (ty := tyX9 48) rfl (by decide) rfl rfl (zput (C := RX9) (T := TX9) (N := 63) (ty0 := tyX9) (ty := tyX9 48) inz9 tyX9_ok nmX9 rfl (by decide) (by rw [h1]; exact wd_1066) rfl rfl dg) hs
theorem pf_X9_361 [zGh] {d : Nat} {X : zM} {fr : Nat} {P : zP d} {pc : Nat} {k : zK d} (h1 : X.1 = RX9) (dg : decode X.2.1 pc = .ok (.putfield 361, 3)) (hs : zSim X fr P (pc + 3) k) : zSim X fr P pc (xpfI 25 50 k) := sm_putI (ci := 9) (n := 50) (ty := tyX9 50) rfl (by decide) rfl rfl (zput (C := RX9) (T := TX9) (N := 63) (ty0 := tyX9) (ty := tyX9 50) inz9 tyX9_ok nmX9 rfl (by decide) (by rw [h1]; exact wd_1068) rfl rfl dg) hs
theorem gf_X9_131 [zGh] {d : Nat} {X : zM} {fr : Nat} {P : zP d} {pc : Nat} {k : zK d} (h1 : X.1 = RX9) (dg : decode X.2.1 pc = .ok (.getfield 131, 3)) (hs : zSim X fr P (pc + 3) k) : zSim X fr P pc (xgfR 25 52 k) := sm_getfieldR (ci := 9) (n := 52) (C := RX9) (T := TX9) (N := 63) rfl rfl inz9 rfl (by decide) rfl (by rw [h1]; exact wd_1070) rfl dg hs
theorem gf_X9_359 [zGh] {d : Nat} {X : zM} {fr : Nat} {P : zP d} {pc : Nat} {k : zK d} (h1 : X.1 = RX9) (dg : decode X.2.1 pc = .ok (.getfield 359, 3)) (hs : zSim X fr P (pc + 3) k) : zSim X fr P pc (xgfI 25 53 k) := sm_getfieldI (ci := 9) (n := 53) (C := RX9) (T := TX9) (N := 63) rfl rfl inz9 rfl (by decide) rfl (by rw [h1]; exact wd_1071) rfl dg hs
theorem cr_X9_364 {X : zM} {fr frc pc mc ms : Nat} (h1 : X.1 = RX9) (hfr : frc + 1 ≤ fr) (dg : decode X.2.1 pc = .ok (.invokevirtual 364, 3)) : zRun X (RX9, cX9_see, 1, (some .int), "see") yX9_see fr frc pc 1 mc ms (fun ws As => ∃ (b : Nat) (As' : List Value) (q0 : Nat) (fs : List Value), As = .ref b :: As' ∧ ws[q0]? = some (b, .inr (9, fs))) := zrunV (n := 0) (ci := 9) rfl rfl wd_1373 wd_14 (by rw [h1]; exact wd_1370) wd_1372 ws_89 (by decide) hfr (by decide) dg
theorem pf_X9_359 [zGh] {d : Nat} {X : zM} {fr : Nat} {P : zP d} {pc : Nat} {k : zK d} (h1 : X.1 = RX9) (dg : decode X.2.1 pc = .ok (.putfield 359, 3)) (hs : zSim X fr P (pc + 3) k) : zSim X fr P pc (xpfI 25 53 k) := sm_putI (ci := 9) (n := 53) (ty := tyX9 53) rfl (by decide) rfl rfl (zput (C := RX9) (T := TX9) (N := 63) (ty0 := tyX9) (ty := tyX9 53) inz9 tyX9_ok nmX9 rfl (by decide) (by rw [h1]; exact wd_1071) rfl rfl dg) hs
theorem pf_X9_367 [zGh] {d : Nat} {X : zM} {fr : Nat} {P : zP d} {pc : Nat} {k : zK d} (h1 : X.1 = RX9) (dg : decode X.2.1 pc = .ok (.putfield 367, 3)) (hs : zSim X fr P (pc + 3) k) : zSim X fr P pc (xpfI 25 55 k) := sm_putI (ci := 9) (n := 55) (ty := tyX9 55) rfl (by decide) rfl rfl (zput (C := RX9) (T := TX9) (N := 63) (ty0 := tyX9) (ty := tyX9 55) inz9 tyX9_ok nmX9 rfl (by decide) (by rw [h1]; exact wd_1073) rfl rfl dg) hs
theorem pf_X9_370 [zGh] {d : Nat} {X : zM} {fr : Nat} {P : zP d} {pc : Nat} {k : zK d} (h1 : X.1 = RX9) (dg : decode X.2.1 pc = .ok (.putfield 370, 3)) (hs : zSim X fr P (pc + 3) k) : zSim X fr P pc (xpfI 25 54 k) := sm_putI (ci := 9) (n := 54) (ty := tyX9 54) rfl (by decide) rfl rfl (zput (C := RX9) (T := TX9) (N := 63) (ty0 := tyX9) (ty := tyX9 54) inz9 tyX9_ok nmX9 rfl (by decide) (by rw [h1]; exact wd_1072) rfl rfl dg) hs
theorem gf_X9_367 [zGh] {d : Nat} {X : zM} {fr : Nat} {P : zP d} {pc : Nat} {k : zK d} (h1 : X.1 = RX9) (dg : decode X.2.1 pc = .ok (.getfield 367, 3)) (hs : zSim X fr P (pc + 3) k) : zSim X fr P pc (xgfI 25 55 k) := sm_getfieldI (ci := 9) (n := 55) (C := RX9) (T := TX9) (N := 63) rfl rfl inz9 rfl (by decide) rfl (by rw [h1]; exact wd_1073) rfl dg hs
theorem cr_X9_377 {X : zM} {fr frc pc mc ms : Nat} (h1 : X.1 = RX9) (hfr : frc + 1 ≤ fr) (dg : decode X.2.1 pc = .ok (.invokevirtual 377, 3)) : zRun X (RX9, cX9_fails, 4, (some .boolean), "fails") yX9_fails fr frc pc 3 mc ms (fun ws As => ∃ (b : Nat) (As' : List Value) (q0 : Nat) (fs : List Value), As = .ref b :: As' ∧ ws[q0]? = some (b, .inr (9, fs))) := zrunV (n := 2) (ci := 9) rfl rfl wd_1389 wd_14 (by rw [h1]; exact wd_1386) wd_1388 ws_93 (by decide) hfr (by decide) dg
theorem gf_X9_370 [zGh] {d : Nat} {X : zM} {fr : Nat} {P : zP d} {pc : Nat} {k : zK d} (h1 : X.1 = RX9) (dg : decode X.2.1 pc = .ok (.getfield 370, 3)) (hs : zSim X fr P (pc + 3) k) : zSim X fr P pc (xgfI 25 54 k) := sm_getfieldI (ci := 9) (n := 54) (C := RX9) (T := TX9) (N := 63) rfl rfl inz9 rfl (by decide) rfl (by rw [h1]; exact wd_1072) rfl dg hs
theorem gf_X9_380 [zGh] {d : Nat} {X : zM} {fr : Nat} {P : zP d} {pc : Nat} {k : zK d} (h1 : X.1 = RX9) (dg : decode X.2.1 pc = .ok (.getfield 380, 3)) (hs : zSim X fr P (pc + 3) k) : zSim X fr P pc (xgfI 25 61 k) := sm_getfieldI (ci := 9) (n := 61) (C := RX9) (T := TX9) (N := 63) rfl rfl inz9 rfl (by decide) rfl (by rw [h1]; exact wd_1079) rfl dg hs
theorem gf_X9_143 [zGh] {d : Nat} {X : zM} {fr : Nat} {P : zP d} {pc : Nat} {k : zK d} (h1 : X.1 = RX9) (dg : decode X.2.1 pc = .ok (.getfield 143, 3)) (hs : zSim X fr P (pc + 3) k) : zSim X fr P pc (xgfR 25 60 k) := sm_getfieldR (ci := 9) (n := 60) (C := RX9) (T := TX9) (N := 63) rfl rfl inz9 rfl (by decide) rfl (by rw [h1]; exact wd_1078) rfl dg hs
theorem pf_X9_380 [zGh] {d : Nat} {X : zM} {fr : Nat} {P : zP d} {pc : Nat} {k : zK d} (h1 : X.1 = RX9) (dg : decode X.2.1 pc = .ok (.putfield 380, 3)) (hs : zSim X fr P (pc + 3) k) : zSim X fr P pc (xpfI 25 61 k) := sm_putI (ci := 9) (n := 61) (ty := tyX9 61) rfl (by decide) rfl rfl (zput (C := RX9) (T := TX9) (N := 63) (ty0 := tyX9) (ty := tyX9 61) inz9 tyX9_ok nmX9 rfl (by decide) (by rw [h1]; exact wd_1079) rfl rfl dg) hs
theorem cr_X9_387 {X : zM} {fr frc pc mc ms : Nat} (h1 : X.1 = RX9) (hfr : frc + 1 ≤ fr) (dg : decode X.2.1 pc = .ok (.invokevirtual 387, 3)) : zRun X (RX9, cX9_isListed, 3, (some .boolean), "isListed") yX9_isListed fr frc pc 2 mc ms (fun ws As => ∃ (b : Nat) (As' : List Value) (q0 : Nat) (fs : List Value), As = .ref b :: As' ∧ ws[q0]? = some (b, .inr (9, fs))) := zrunV (n := 1) (ci := 9) rfl rfl wd_1407 wd_14 (by rw [h1]; exact wd_1404) wd_1406 ws_97 (by decide) hfr (by decide) dg
theorem cr_X9_383 {X : zM} {fr frc pc mc ms : Nat} (h1 : X.1 = RX9) (hfr : frc + 1 ≤ fr) (dg : decode X.2.1 pc = .ok (.invokevirtual 383, 3)) : zRun X (RX9, cX9_readsNumber, 1, (some .boolean), "readsNumber") yX9_readsNumber fr frc pc 1 mc ms (fun ws As => ∃ (b : Nat) (As' : List Value) (q0 : Nat) (fs : List Value), As = .ref b :: As' ∧ ws[q0]? = some (b, .inr (9, fs))) := zrunV (n := 0) (ci := 9) rfl rfl wd_1401 wd_14 (by rw [h1]; exact wd_1398) wd_1400 ws_96 (by decide) hfr (by decide) dg
theorem gf_X9_146 [zGh] {d : Nat} {X : zM} {fr : Nat} {P : zP d} {pc : Nat} {k : zK d} (h1 : X.1 = RX9) (dg : decode X.2.1 pc = .ok (.getfield 146, 3)) (hs : zSim X fr P (pc + 3) k) : zSim X fr P pc (xgfR 25 62 k) := sm_getfieldR (ci := 9) (n := 62) (C := RX9) (T := TX9) (N := 63) rfl rfl inz9 rfl (by decide) rfl (by rw [h1]; exact wd_1080) rfl dg hs
theorem cr_X9_390 {X : zM} {fr frc pc mc ms : Nat} (h1 : X.1 = RX9) (hfr : frc + 1 ≤ fr) (dg : decode X.2.1 pc = .ok (.invokevirtual 390, 3)) : zRun X (RX9, cX9_fillings, 6, (some .int), "fillings") yX9_fillings fr frc pc 4 mc ms (fun ws As => ∃ (b : Nat) (As' : List Value) (q0 : Nat) (fs : List Value), As = .ref b :: As' ∧ ws[q0]? = some (b, .inr (9, fs))) := zrunV (n := 3) (ci := 9) rfl rfl wd_1411 wd_14 (by rw [h1]; exact wd_1408) wd_1410 ws_98 (by decide) hfr (by decide) dg
theorem cr_X9_393 {X : zM} {fr frc pc mc ms : Nat} (h1 : X.1 = RX9) (hfr : frc + 1 ≤ fr) (dg : decode X.2.1 pc = .ok (.invokevirtual 393, 3)) : zRun X (RX9, cX9_readsPart, 5, (some .int), "readsPart") yX9_readsPart fr frc pc 1 mc ms (fun ws As => ∃ (b : Nat) (As' : List Value) (q0 : Nat) (fs : List Value), As = .ref b :: As' ∧ ws[q0]? = some (b, .inr (9, fs))) := zrunV (n := 0) (ci := 9) rfl rfl wd_1397 wd_14 (by rw [h1]; exact wd_1394) wd_1396 ws_95 (by decide) hfr (by decide) dg
theorem gf_X9_140 [zGh] {d : Nat} {X : zM} {fr : Nat} {P : zP d} {pc : Nat} {k : zK d} (h1 : X.1 = RX9) (dg : decode X.2.1 pc = .ok (.getfield 140, 3)) (hs : zSim X fr P (pc + 3) k) : zSim X fr P pc (xgfR 25 58 k) := sm_getfieldR (ci := 9) (n := 58) (C := RX9) (T := TX9) (N := 63) rfl rfl inz9 rfl (by decide) rfl (by rw [h1]; exact wd_1076) rfl dg hs
theorem gf_X9_396 [zGh] {d : Nat} {X : zM} {fr : Nat} {P : zP d} {pc : Nat} {k : zK d} (h1 : X.1 = RX9) (dg : decode X.2.1 pc = .ok (.getfield 396, 3)) (hs : zSim X fr P (pc + 3) k) : zSim X fr P pc (xgfI 25 59 k) := sm_getfieldI (ci := 9) (n := 59) (C := RX9) (T := TX9) (N := 63) rfl rfl inz9 rfl (by decide) rfl (by rw [h1]; exact wd_1077) rfl dg hs
theorem pf_X9_396 [zGh] {d : Nat} {X : zM} {fr : Nat} {P : zP d} {pc : Nat} {k : zK d} (h1 : X.1 = RX9) (dg : decode X.2.1 pc = .ok (.putfield 396, 3)) (hs : zSim X fr P (pc + 3) k) : zSim X fr P pc (xpfI 25 59 k) := sm_putI (ci := 9) (n := 59) (ty := tyX9 59) rfl (by decide) rfl rfl (zput (C := RX9) (T := TX9) (N := 63) (ty0 := tyX9) (ty := tyX9 59) inz9 tyX9_ok nmX9 rfl (by decide) (by rw [h1]; exact wd_1077) rfl rfl dg) hs
theorem cr_X9_399 {X : zM} {fr frc pc mc ms : Nat} (h1 : X.1 = RX9) (hfr : frc + 1 ≤ fr) (dg : decode X.2.1 pc = .ok (.invokevirtual 399, 3)) : zRun X (RX9, cX9_readsSum, 4, (some .boolean), "readsSum") yX9_readsSum fr frc pc 1 mc ms (fun ws As => ∃ (b : Nat) (As' : List Value) (q0 : Nat) (fs : List Value), As = .ref b :: As' ∧ ws[q0]? = some (b, .inr (9, fs))) := zrunV (n := 0) (ci := 9) rfl rfl wd_1365 wd_14 (by rw [h1]; exact wd_1362) wd_1364 ws_87 (by decide) hfr (by decide) dg
theorem gf_X9_134 [zGh] {d : Nat} {X : zM} {fr : Nat} {P : zP d} {pc : Nat} {k : zK d} (h1 : X.1 = RX9) (dg : decode X.2.1 pc = .ok (.getfield 134, 3)) (hs : zSim X fr P (pc + 3) k) : zSim X fr P pc (xgfR 25 56 k) := sm_getfieldR (ci := 9) (n := 56) (C := RX9) (T := TX9) (N := 63) rfl rfl inz9 rfl (by decide) rfl (by rw [h1]; exact wd_1074) rfl dg hs
theorem cr_X9_402 {X : zM} {fr frc pc mc ms : Nat} (h1 : X.1 = RX9) (hfr : frc + 1 ≤ fr) (dg : decode X.2.1 pc = .ok (.invokevirtual 402, 3)) : zRun X (RX9, cX9_begin, 1, none, "begin") yX9_begin fr frc pc 1 mc ms (fun ws As => ∃ (b : Nat) (As' : List Value) (q0 : Nat) (fs : List Value), As = .ref b :: As' ∧ ws[q0]? = some (b, .inr (9, fs))) := zrunV (n := 0) (ci := 9) rfl rfl wd_1369 wd_14 (by rw [h1]; exact wd_1366) wd_1368 ws_88 (by decide) hfr (by decide) dg
theorem cr_X9_408 {X : zM} {fr frc pc mc ms : Nat} (h1 : X.1 = RX9) (hfr : frc + 1 ≤ fr) (dg : decode X.2.1 pc = .ok (.invokevirtual 408, 3)) : zRun X (RX9, cX9_readsNamed, 6, (some .boolean), "readsNamed") yX9_readsNamed fr frc pc 2 mc ms (fun ws As => ∃ (b : Nat) (As' : List Value) (q0 : Nat) (fs : List Value), As = .ref b :: As' ∧ ws[q0]? = some (b, .inr (9, fs))) := zrunV (n := 1) (ci := 9) rfl rfl wd_1393 wd_14 (by rw [h1]; exact wd_1390) wd_1392 ws_94 (by decide) hfr (by decide) dg
theorem cr_X9_411 {X : zM} {fr frc pc mc ms : Nat} (h1 : X.1 = RX9) (hfr : frc + 1 ≤ fr) (dg : decode X.2.1 pc = .ok (.invokevirtual 411, 3)) : zRun X (RX9, cX9_readsSlot, 2, (some .boolean), "readsSlot") yX9_readsSlot fr frc pc 1 mc ms (fun ws As => ∃ (b : Nat) (As' : List Value) (q0 : Nat) (fs : List Value), As = .ref b :: As' ∧ ws[q0]? = some (b, .inr (9, fs))) := zrunV (n := 0) (ci := 9) rfl rfl wd_1415 wd_14 (by rw [h1]; exact wd_1412) wd_1414 ws_99 (by decide) hfr (by decide) dg
theorem cr_X9_405 {X : zM} {fr frc pc mc ms : Nat} (h1 : X.1 = RX9) (hfr : frc + 1 ≤ fr) (dg : decode X.2.1 pc = .ok (.invokevirtual 405, 3)) : zRun X (RX9, cX9_readsInner, 2, (some .boolean), "readsInner") yX9_readsInner fr frc pc 1 mc ms (fun ws As => ∃ (b : Nat) (As' : List Value) (q0 : Nat) (fs : List Value), As = .ref b :: As' ∧ ws[q0]? = some (b, .inr (9, fs))) := zrunV (n := 0) (ci := 9) rfl rfl wd_1385 wd_14 (by rw [h1]; exact wd_1382) wd_1384 ws_92 (by decide) hfr (by decide) dg
theorem cr_X9_418 {X : zM} {fr frc pc mc ms : Nat} (h1 : X.1 = RX9) (hfr : frc + 1 ≤ fr) (dg : decode X.2.1 pc = .ok (.invokevirtual 418, 3)) : zRun X (RX9, cX9_readsFactor, 4, (some .boolean), "readsFactor") yX9_readsFactor fr frc pc 1 mc ms (fun ws As => ∃ (b : Nat) (As' : List Value) (q0 : Nat) (fs : List Value), As = .ref b :: As' ∧ ws[q0]? = some (b, .inr (9, fs))) := zrunV (n := 0) (ci := 9) rfl rfl wd_1381 wd_14 (by rw [h1]; exact wd_1378) wd_1380 ws_91 (by decide) hfr (by decide) dg
theorem gf_X9_137 [zGh] {d : Nat} {X : zM} {fr : Nat} {P : zP d} {pc : Nat} {k : zK d} (h1 : X.1 = RX9) (dg : decode X.2.1 pc = .ok (.getfield 137, 3)) (hs : zSim X fr P (pc + 3) k) : zSim X fr P pc (xgfR 25 57 k) := sm_getfieldR (ci := 9) (n := 57) (C := RX9) (T := TX9) (N := 63) rfl rfl inz9 rfl (by decide) rfl (by rw [h1]; exact wd_1075) rfl dg hs
theorem cr_X9_425 {X : zM} {fr frc pc mc ms : Nat} (h1 : X.1 = RX9) (hfr : frc + 1 ≤ fr) (dg : decode X.2.1 pc = .ok (.invokevirtual 425, 3)) : zRun X (RX9, cX9_readsTerm, 6, (some .boolean), "readsTerm") yX9_readsTerm fr frc pc 1 mc ms (fun ws As => ∃ (b : Nat) (As' : List Value) (q0 : Nat) (fs : List Value), As = .ref b :: As' ∧ ws[q0]? = some (b, .inr (9, fs))) := zrunV (n := 0) (ci := 9) rfl rfl wd_1377 wd_14 (by rw [h1]; exact wd_1374) wd_1376 ws_90 (by decide) hfr (by decide) dg
theorem cr_X9_428 {X : zM} {fr frc pc mc ms : Nat} (h1 : X.1 = RX9) (hfr : frc + 1 ≤ fr) (dg : decode X.2.1 pc = .ok (.invokevirtual 428, 3)) : zRun X (RX9, cX9_areNear, 3, (some .boolean), "areNear") yX9_areNear fr frc pc 2 mc ms (fun ws As => ∃ (b : Nat) (As' : List Value) (q0 : Nat) (fs : List Value), As = .ref b :: As' ∧ ws[q0]? = some (b, .inr (9, fs))) := zrunV (n := 1) (ci := 9) rfl rfl wd_1421 wd_14 (by rw [h1]; exact wd_1418) wd_1420 ws_100 (by decide) hfr (by decide) dg
end
section
/-! the reference reads, by program -/
abbrev X_X9_see : zM := (RX9, cX9_see, 1, (some .int), "see")
noncomputable def bX9_see_76 {d : Nat} (P : zP d) : zK d := (xiret P)
set_option maxRecDepth 100000 in
set_option maxHeartbeats 4000000 in
theorem sbX9_see_76 {d : Nat} [zGh] (P : zP d) : zSim X_X9_see 1 P 76 (bX9_see_76 P) := by
  unfold bX9_see_76
  exact sm_ireturn (pc := 76) dX9_see_76 rfl
noncomputable def bX9_see_52 {d : Nat} (P : zP d) : zK d := (xald 0 (xgfI 25 47 (xald 0 (xgfI 25 46 (xjoin (bX9_see_76 P) (fun j76 => (xcmp tge (xpI 4294967295 j76) (xald 0 (xgfR 25 45 (xald 0 (xgfI 25 47 (xald1 0 j76))))))))))))
set_option maxRecDepth 100000 in
set_option maxHeartbeats 4000000 in
theorem sbX9_see_52 {d : Nat} [zGh] (P : zP d) : zSim X_X9_see 1 P 52 (bX9_see_52 P) := by
  unfold bX9_see_52
  refine sm_aload_n (pc := 52) (n := 0) dX9_see_52 rfl ?_
  refine gf_X9_353 (pc := 53) rfl dX9_see_53 ?_
  refine sm_aload_n (pc := 56) (n := 0) dX9_see_56 rfl ?_
  refine gf_X9_347 (pc := 57) rfl dX9_see_57 ?_
  refine sm_join (pc := 60) (pc' := 76) (sbX9_see_76 P) (fun j76 hj76 => ?_)
  refine sm_icmp_ge (pc := 60) (tgt := 75) dX9_see_60 (by decide) ?_ ?_
  · skip
    refine sm_iconst (pc := 75) dX9_see_75 zc_i_m1 ?_
    exact hj76
  · skip
    refine sm_aload_n (pc := 63) (n := 0) dX9_see_63 rfl ?_
    refine gf_X9_121 (pc := 64) rfl dX9_see_64 ?_
    refine sm_aload_n (pc := 67) (n := 0) dX9_see_67 rfl ?_
    refine gf_X9_353 (pc := 68) rfl dX9_see_68 ?_
    refine sm_iaload (pc := 71) dX9_see_71 ?_
    refine sm_goto (pc := 72) (tgt := 76) dX9_see_72 (by decide) ?_
    exact hj76
noncomputable def bX9_see_39 {d : Nat} (P : zP d) (r0 : zK d) : zK d := (xald 0 (xdup (xgfI 25 47 (xpI 1 (xbin zadd (xpfI 25 47 r0))))))
set_option maxRecDepth 100000 in
set_option maxHeartbeats 4000000 in
theorem sbX9_see_39 {d : Nat} [zGh] (P : zP d) (r0 : zK d) (hr0 : zSim X_X9_see 1 P 0 r0) : zSim X_X9_see 1 P 39 (bX9_see_39 P r0) := by
  unfold bX9_see_39
  refine sm_aload_n (pc := 39) (n := 0) dX9_see_39 rfl ?_
  refine sm_dup (pc := 40) dX9_see_40 ?_
  refine gf_X9_353 (pc := 41) rfl dX9_see_41 ?_
  refine sm_iconst (pc := 44) dX9_see_44 zc_i_1 ?_
  refine sm_iadd (pc := 45) dX9_see_45 ?_
  refine pf_X9_353 (pc := 46) rfl dX9_see_46 ?_
  refine sm_goto (pc := 49) (tgt := 0) dX9_see_49 (by decide) ?_
  exact hr0
noncomputable def lX9_see_0 {d : Nat} (P : zP d) (r0 : zK d) : zK d := (xald 0 (xgfI 25 47 (xald 0 (xgfI 25 46 (xjoin (bX9_see_52 P) (fun j52 => (xcmp tge j52 (xald 0 (xgfR 25 45 (xald 0 (xgfI 25 47 (xald1 0 (xpI 32 (xjoin (bX9_see_39 P r0) (fun j39 => (xcmp Nat.beq j39 (xald 0 (xgfR 25 45 (xald 0 (xgfI 25 47 (xald1 0 (xpI 10 (xcmp Nat.beq j39 j52)))))))))))))))))))))))
set_option maxRecDepth 100000 in
set_option maxHeartbeats 4000000 in
theorem slX9_see_0 {d : Nat} [zGh] (P : zP d) (r0 : zK d) (hr0 : zSim X_X9_see 1 P 0 r0) : zSim X_X9_see 1 P 0 (lX9_see_0 P r0) := by
  unfold lX9_see_0
  refine sm_aload_n (pc := 0) (n := 0) dX9_see_0 rfl ?_
  refine gf_X9_353 (pc := 1) rfl dX9_see_1 ?_
  refine sm_aload_n (pc := 4) (n := 0) dX9_see_4 rfl ?_
  refine gf_X9_347 (pc := 5) rfl dX9_see_5 ?_
  refine sm_join (pc := 8) (pc' := 52) (sbX9_see_52 P) (fun j52 hj52 => ?_)
  refine sm_icmp_ge (pc := 8) (tgt := 52) dX9_see_8 (by decide) ?_ ?_
  · skip
    exact hj52
  · skip
    refine sm_aload_n (pc := 11) (n := 0) dX9_see_11 rfl ?_
    refine gf_X9_121 (pc := 12) rfl dX9_see_12 ?_
    refine sm_aload_n (pc := 15) (n := 0) dX9_see_15 rfl ?_
    refine gf_X9_353 (pc := 16) rfl dX9_see_16 ?_
    refine sm_iaload (pc := 19) dX9_see_19 ?_
    refine sm_bipush (pc := 20) dX9_see_20 zc_b_32 ?_
    refine sm_join (pc := 22) (pc' := 39) (sbX9_see_39 P r0 hr0) (fun j39 hj39 => ?_)
    refine sm_icmp_eq (pc := 22) (tgt := 39) dX9_see_22 (by decide) ?_ ?_
    · skip
      exact hj39
    · skip
      refine sm_aload_n (pc := 25) (n := 0) dX9_see_25 rfl ?_
      refine gf_X9_121 (pc := 26) rfl dX9_see_26 ?_
      refine sm_aload_n (pc := 29) (n := 0) dX9_see_29 rfl ?_
      refine gf_X9_353 (pc := 30) rfl dX9_see_30 ?_
      refine sm_iaload (pc := 33) dX9_see_33 ?_
      refine sm_bipush (pc := 34) dX9_see_34 zc_b_10 ?_
      refine sm_icmp_ne (pc := 36) (tgt := 52) dX9_see_36 (by decide) ?_ ?_
      · skip
        exact hj52
      · skip
        exact hj39
noncomputable def b_X9_see {d : Nat} (P : zP d) : zK d := (xloop (fun r0 => (lX9_see_0 P r0)) 100000)
set_option maxRecDepth 100000 in
set_option maxHeartbeats 4000000 in
theorem s_X9_see {d : Nat} [zGh] (P : zP d) : zSim X_X9_see 1 P 0 (b_X9_see P) := by
  unfold b_X9_see
  exact sm_loop (fun r0 hr0 => slX9_see_0 P r0 hr0) _
noncomputable def f_X9_see {d : Nat} : List zV → zH d → zP d → Bool := zfn 1 b_X9_see
theorem m_X9_see {d : Nat} : zMet (d := d) X_X9_see yX9_see 1 f_X9_see := zmet_mk (X := X_X9_see) (by decide) rfl rfl s_X9_see

abbrev X_X9_fails : zM := (RX9, cX9_fails, 4, (some .boolean), "fails")
noncomputable def lX9_fails_38 {d : Nat} (P : zP d) (r38 : zK d) : zK d := (xild 3 (xald 0 (xgfI 25 50 (xcmp tge (xpI 0 (xzret P)) (xald 0 (xgfR 25 51 (xild 3 (xald 0 (xgfR 25 52 (xald 0 (xgfI 25 53 (xpI 1 (xbin zsub (xild 3 (xbin zsub (xald1 0 (xast1 0 (fun v => v) (xinc 3 1 r38))))))))))))))))))
set_option maxRecDepth 100000 in
set_option maxHeartbeats 4000000 in
theorem slX9_fails_38 {d : Nat} [zGh] (P : zP d) (r38 : zK d) (hr38 : zSim X_X9_fails 1 P 38 r38) : zSim X_X9_fails 1 P 38 (lX9_fails_38 P r38) := by
  unfold lX9_fails_38
  refine sm_iload_n (pc := 38) (n := 3) dX9_fails_38 rfl ?_
  refine sm_aload_n (pc := 39) (n := 0) dX9_fails_39 rfl ?_
  refine gf_X9_361 (pc := 40) rfl dX9_fails_40 ?_
  refine sm_icmp_ge (pc := 43) (tgt := 71) dX9_fails_43 (by decide) ?_ ?_
  · skip
    refine sm_iconst (pc := 71) dX9_fails_71 zc_i_0 ?_
    exact sm_zreturn (pc := 72) dX9_fails_72 rfl
  · skip
    refine sm_aload_n (pc := 46) (n := 0) dX9_fails_46 rfl ?_
    refine gf_X9_128 (pc := 47) rfl dX9_fails_47 ?_
    refine sm_iload_n (pc := 50) (n := 3) dX9_fails_50 rfl ?_
    refine sm_aload_n (pc := 51) (n := 0) dX9_fails_51 rfl ?_
    refine gf_X9_131 (pc := 52) rfl dX9_fails_52 ?_
    refine sm_aload_n (pc := 55) (n := 0) dX9_fails_55 rfl ?_
    refine gf_X9_359 (pc := 56) rfl dX9_fails_56 ?_
    refine sm_iconst (pc := 59) dX9_fails_59 zc_i_1 ?_
    refine sm_isub (pc := 60) dX9_fails_60 ?_
    refine sm_iload_n (pc := 61) (n := 3) dX9_fails_61 rfl ?_
    refine sm_isub (pc := 62) dX9_fails_62 ?_
    refine sm_iaload (pc := 63) dX9_fails_63 ?_
    refine sm_iastore (pc := 64) dX9_fails_64 ?_
    refine sm_iinc (pc := 65) (n := 3) dX9_fails_65 zc_i_1 ?_
    refine sm_goto (pc := 68) (tgt := 38) dX9_fails_68 (by decide) ?_
    exact hr38
noncomputable def bX9_fails_33 {d : Nat} (P : zP d) : zK d := (xpfI 25 50 (xpI 0 (xist 3 (xloop (fun r38 => (lX9_fails_38 P r38)) 100000))))
set_option maxRecDepth 100000 in
set_option maxHeartbeats 4000000 in
theorem sbX9_fails_33 {d : Nat} [zGh] (P : zP d) : zSim X_X9_fails 1 P 33 (bX9_fails_33 P) := by
  unfold bX9_fails_33
  refine pf_X9_361 (pc := 33) rfl dX9_fails_33 ?_
  refine sm_iconst (pc := 36) dX9_fails_36 zc_i_0 ?_
  refine sm_istore_n (pc := 37) (n := 3) dX9_fails_37 rfl ?_
  exact sm_loop (fun r38 hr38 => slX9_fails_38 P r38 hr38) _
noncomputable def b_X9_fails {d : Nat} (P : zP d) : zK d := (xald 0 (xgfI 25 48 (xif0 t0eq (xald 0 (xild 1 (xpfI 25 48 (xald 0 (xild 2 (xpfI 25 49 (xald 0 (xild 1 (xpI 1 (xjoin (bX9_fails_33 P) (fun j33 => (xcmp Nat.beq (xpI 0 j33) (xald 0 (xgfI 25 53 j33)))))))))))))) (xpI 0 (xzret P)))))
set_option maxRecDepth 100000 in
set_option maxHeartbeats 4000000 in
theorem s_X9_fails {d : Nat} [zGh] (P : zP d) : zSim X_X9_fails 1 P 0 (b_X9_fails P) := by
  unfold b_X9_fails
  refine sm_aload_n (pc := 0) (n := 0) dX9_fails_0 rfl ?_
  refine gf_X9_356 (pc := 1) rfl dX9_fails_1 ?_
  refine sm_if_eq (pc := 4) (tgt := 9) dX9_fails_4 (by decide) ?_ ?_
  · skip
    refine sm_aload_n (pc := 9) (n := 0) dX9_fails_9 rfl ?_
    refine sm_iload_n (pc := 10) (n := 1) dX9_fails_10 rfl ?_
    refine pf_X9_356 (pc := 11) rfl dX9_fails_11 ?_
    refine sm_aload_n (pc := 14) (n := 0) dX9_fails_14 rfl ?_
    refine sm_iload_n (pc := 15) (n := 2) dX9_fails_15 rfl ?_
    refine pf_X9_124 (pc := 16) rfl dX9_fails_16 ?_
    refine sm_aload_n (pc := 19) (n := 0) dX9_fails_19 rfl ?_
    refine sm_iload_n (pc := 20) (n := 1) dX9_fails_20 rfl ?_
    refine sm_iconst (pc := 21) dX9_fails_21 zc_i_1 ?_
    refine sm_join (pc := 22) (pc' := 33) (sbX9_fails_33 P) (fun j33 hj33 => ?_)
    refine sm_icmp_ne (pc := 22) (tgt := 29) dX9_fails_22 (by decide) ?_ ?_
    · skip
      refine sm_aload_n (pc := 29) (n := 0) dX9_fails_29 rfl ?_
      refine gf_X9_359 (pc := 30) rfl dX9_fails_30 ?_
      exact hj33
    · skip
      refine sm_iconst (pc := 25) dX9_fails_25 zc_i_0 ?_
      refine sm_goto (pc := 26) (tgt := 33) dX9_fails_26 (by decide) ?_
      exact hj33
  · skip
    refine sm_iconst (pc := 7) dX9_fails_7 zc_i_0 ?_
    exact sm_zreturn (pc := 8) dX9_fails_8 rfl
noncomputable def f_X9_fails {d : Nat} : List zV → zH d → zP d → Bool := zfn 4 b_X9_fails
theorem m_X9_fails {d : Nat} : zMet (d := d) X_X9_fails yX9_fails 1 f_X9_fails := zmet_mk (X := X_X9_fails) (by decide) rfl rfl s_X9_fails

abbrev X_X9_begin : zM := (RX9, cX9_begin, 1, none, "begin")
noncomputable def b_X9_begin {d : Nat} (P : zP d) : zK d := (xald 0 (xcV 25 1 0 0 f_X9_see (xpop (xald 0 (xgfR 25 52 (xald 0 (xgfI 25 53 (xald 0 (xgfI 25 47 (xast1 0 (fun v => v) (xald 0 (xdup (xgfI 25 53 (xpI 1 (xbin zadd (xpfI 25 53 (xvret P)))))))))))))))))
set_option maxRecDepth 100000 in
set_option maxHeartbeats 4000000 in
theorem s_X9_begin {d : Nat} [zGh] (P : zP d) : zSim X_X9_begin 2 P 0 (b_X9_begin P) := by
  unfold b_X9_begin
  refine sm_aload_n (pc := 0) (n := 0) dX9_begin_0 rfl ?_
  refine sm_cV (pc := 1) (ci := 9) (n := 1) (mc := 0) (ms := 0) rfl m_X9_see (cr_X9_364 (X := X_X9_begin) (fr := 2) (frc := 1) (pc := 1) (mc := 0) (ms := 0) rfl (by decide) dX9_begin_1) ?_
  refine sm_pop (pc := 4) dX9_begin_4 ?_
  refine sm_aload_n (pc := 5) (n := 0) dX9_begin_5 rfl ?_
  refine gf_X9_131 (pc := 6) rfl dX9_begin_6 ?_
  refine sm_aload_n (pc := 9) (n := 0) dX9_begin_9 rfl ?_
  refine gf_X9_359 (pc := 10) rfl dX9_begin_10 ?_
  refine sm_aload_n (pc := 13) (n := 0) dX9_begin_13 rfl ?_
  refine gf_X9_353 (pc := 14) rfl dX9_begin_14 ?_
  refine sm_iastore (pc := 17) dX9_begin_17 ?_
  refine sm_aload_n (pc := 18) (n := 0) dX9_begin_18 rfl ?_
  refine sm_dup (pc := 19) dX9_begin_19 ?_
  refine gf_X9_359 (pc := 20) rfl dX9_begin_20 ?_
  refine sm_iconst (pc := 23) dX9_begin_23 zc_i_1 ?_
  refine sm_iadd (pc := 24) dX9_begin_24 ?_
  refine pf_X9_359 (pc := 25) rfl dX9_begin_25 ?_
  exact sm_vreturn (pc := 28) dX9_begin_28 rfl
noncomputable def f_X9_begin {d : Nat} : List zV → zH d → zP d → Bool := zfn 1 b_X9_begin
theorem m_X9_begin {d : Nat} : zMet (d := d) X_X9_begin yX9_begin 2 f_X9_begin := zmet_mk (X := X_X9_begin) (by decide) rfl rfl s_X9_begin

abbrev X_X9_readsNumber : zM := (RX9, cX9_readsNumber, 1, (some .boolean), "readsNumber")
noncomputable def bX9_readsNumber_125 {d : Nat} (P : zP d) : zK d := (xald 0 (xpI 1 (xald 0 (xgfI 25 55 (xcV 25 3 0 0 f_X9_fails (xzret P))))))
set_option maxRecDepth 100000 in
set_option maxHeartbeats 4000000 in
theorem sbX9_readsNumber_125 {d : Nat} [zGh] (P : zP d) : zSim X_X9_readsNumber 2 P 125 (bX9_readsNumber_125 P) := by
  unfold bX9_readsNumber_125
  refine sm_aload_n (pc := 125) (n := 0) dX9_readsNumber_125 rfl ?_
  refine sm_iconst (pc := 126) dX9_readsNumber_126 zc_i_1 ?_
  refine sm_aload_n (pc := 127) (n := 0) dX9_readsNumber_127 rfl ?_
  refine gf_X9_367 (pc := 128) rfl dX9_readsNumber_128 ?_
  refine sm_cV (pc := 131) (ci := 9) (n := 3) (mc := 0) (ms := 0) rfl m_X9_fails (cr_X9_377 (X := X_X9_readsNumber) (fr := 2) (frc := 1) (pc := 131) (mc := 0) (ms := 0) rfl (by decide) dX9_readsNumber_131) ?_
  exact sm_zreturn (pc := 134) dX9_readsNumber_134 rfl
noncomputable def bX9_readsNumber_101 {d : Nat} (P : zP d) : zK d := (xald 0 (xgfI 25 47 (xald 0 (xgfI 25 55 (xjoin (bX9_readsNumber_125 P) (fun j125 => (xcmp Nat.beq j125 (xald 0 (xgfI 25 47 (xald 0 (xgfI 25 55 (xbin zsub (xpI 4 (xcmp tle (xpI 1 (xzret P)) j125))))))))))))))
set_option maxRecDepth 100000 in
set_option maxHeartbeats 4000000 in
theorem sbX9_readsNumber_101 {d : Nat} [zGh] (P : zP d) : zSim X_X9_readsNumber 2 P 101 (bX9_readsNumber_101 P) := by
  unfold bX9_readsNumber_101
  refine sm_aload_n (pc := 101) (n := 0) dX9_readsNumber_101 rfl ?_
  refine gf_X9_353 (pc := 102) rfl dX9_readsNumber_102 ?_
  refine sm_aload_n (pc := 105) (n := 0) dX9_readsNumber_105 rfl ?_
  refine gf_X9_367 (pc := 106) rfl dX9_readsNumber_106 ?_
  refine sm_join (pc := 109) (pc' := 125) (sbX9_readsNumber_125 P) (fun j125 hj125 => ?_)
  refine sm_icmp_eq (pc := 109) (tgt := 125) dX9_readsNumber_109 (by decide) ?_ ?_
  · skip
    exact hj125
  · skip
    refine sm_aload_n (pc := 112) (n := 0) dX9_readsNumber_112 rfl ?_
    refine gf_X9_353 (pc := 113) rfl dX9_readsNumber_113 ?_
    refine sm_aload_n (pc := 116) (n := 0) dX9_readsNumber_116 rfl ?_
    refine gf_X9_367 (pc := 117) rfl dX9_readsNumber_117 ?_
    refine sm_isub (pc := 120) dX9_readsNumber_120 ?_
    refine sm_iconst (pc := 121) dX9_readsNumber_121 zc_i_4 ?_
    refine sm_icmp_le (pc := 122) (tgt := 135) dX9_readsNumber_122 (by decide) ?_ ?_
    · skip
      refine sm_iconst (pc := 135) dX9_readsNumber_135 zc_i_1 ?_
      exact sm_zreturn (pc := 136) dX9_readsNumber_136 rfl
    · skip
      exact hj125
noncomputable def bX9_readsNumber_88 {d : Nat} (P : zP d) (r18 : zK d) : zK d := (xald 0 (xdup (xgfI 25 47 (xpI 1 (xbin zadd (xpfI 25 47 r18))))))
set_option maxRecDepth 100000 in
set_option maxHeartbeats 4000000 in
theorem sbX9_readsNumber_88 {d : Nat} [zGh] (P : zP d) (r18 : zK d) (hr18 : zSim X_X9_readsNumber 2 P 18 r18) : zSim X_X9_readsNumber 2 P 88 (bX9_readsNumber_88 P r18) := by
  unfold bX9_readsNumber_88
  refine sm_aload_n (pc := 88) (n := 0) dX9_readsNumber_88 rfl ?_
  refine sm_dup (pc := 89) dX9_readsNumber_89 ?_
  refine gf_X9_353 (pc := 90) rfl dX9_readsNumber_90 ?_
  refine sm_iconst (pc := 93) dX9_readsNumber_93 zc_i_1 ?_
  refine sm_iadd (pc := 94) dX9_readsNumber_94 ?_
  refine pf_X9_353 (pc := 95) rfl dX9_readsNumber_95 ?_
  refine sm_goto (pc := 98) (tgt := 18) dX9_readsNumber_98 (by decide) ?_
  exact hr18
noncomputable def cX9_readsNumber_67 {d : Nat} (P : zP d) (j88 : zK d) : zK d := (xald 0 (xgfI 25 54 (xbin zmul (xald 0 (xgfR 25 45 (xald 0 (xgfI 25 47 (xald1 0 (xbin zadd (xpI 48 (xbin zsub (xpfI 25 54 j88))))))))))))
set_option maxRecDepth 100000 in
set_option maxHeartbeats 4000000 in
theorem scX9_readsNumber_67 {d : Nat} [zGh] (P : zP d) (j88 : zK d) (hj88 : zSim X_X9_readsNumber 2 P 88 j88) : zSim X_X9_readsNumber 2 P 67 (cX9_readsNumber_67 P j88) := by
  unfold cX9_readsNumber_67
  refine sm_aload_n (pc := 67) (n := 0) dX9_readsNumber_67 rfl ?_
  refine gf_X9_370 (pc := 68) rfl dX9_readsNumber_68 ?_
  refine sm_imul (pc := 71) dX9_readsNumber_71 ?_
  refine sm_aload_n (pc := 72) (n := 0) dX9_readsNumber_72 rfl ?_
  refine gf_X9_121 (pc := 73) rfl dX9_readsNumber_73 ?_
  refine sm_aload_n (pc := 76) (n := 0) dX9_readsNumber_76 rfl ?_
  refine gf_X9_353 (pc := 77) rfl dX9_readsNumber_77 ?_
  refine sm_iaload (pc := 80) dX9_readsNumber_80 ?_
  refine sm_iadd (pc := 81) dX9_readsNumber_81 ?_
  refine sm_bipush (pc := 82) dX9_readsNumber_82 zc_b_48 ?_
  refine sm_isub (pc := 84) dX9_readsNumber_84 ?_
  refine pf_X9_370 (pc := 85) rfl dX9_readsNumber_85 ?_
  exact hj88
noncomputable def lX9_readsNumber_18 {d : Nat} (P : zP d) (r18 : zK d) : zK d := (xald 0 (xgfI 25 47 (xald 0 (xgfI 25 46 (xjoin (bX9_readsNumber_101 P) (fun j101 => (xcmp tge j101 (xald 0 (xgfR 25 45 (xald 0 (xgfI 25 47 (xald1 0 (xi2l (xpL 48 (xpL 57 (xcS 3 0 0 f_X9_isIn (xif0 t0eq j101 (xald 0 (xgfI 25 47 (xald 0 (xgfI 25 55 (xbin zsub (xpI 5 (xjoin (bX9_readsNumber_88 P r18) (fun j88 => (xcmp tge j88 (xald 0 (xpI 10 (cX9_readsNumber_67 P j88)))))))))))))))))))))))))))))
set_option maxRecDepth 100000 in
set_option maxHeartbeats 4000000 in
theorem slX9_readsNumber_18 {d : Nat} [zGh] (P : zP d) (r18 : zK d) (hr18 : zSim X_X9_readsNumber 2 P 18 r18) : zSim X_X9_readsNumber 2 P 18 (lX9_readsNumber_18 P r18) := by
  unfold lX9_readsNumber_18
  refine sm_aload_n (pc := 18) (n := 0) dX9_readsNumber_18 rfl ?_
  refine gf_X9_353 (pc := 19) rfl dX9_readsNumber_19 ?_
  refine sm_aload_n (pc := 22) (n := 0) dX9_readsNumber_22 rfl ?_
  refine gf_X9_347 (pc := 23) rfl dX9_readsNumber_23 ?_
  refine sm_join (pc := 26) (pc' := 101) (sbX9_readsNumber_101 P) (fun j101 hj101 => ?_)
  refine sm_icmp_ge (pc := 26) (tgt := 101) dX9_readsNumber_26 (by decide) ?_ ?_
  · skip
    exact hj101
  · skip
    refine sm_aload_n (pc := 29) (n := 0) dX9_readsNumber_29 rfl ?_
    refine gf_X9_121 (pc := 30) rfl dX9_readsNumber_30 ?_
    refine sm_aload_n (pc := 33) (n := 0) dX9_readsNumber_33 rfl ?_
    refine gf_X9_353 (pc := 34) rfl dX9_readsNumber_34 ?_
    refine sm_iaload (pc := 37) dX9_readsNumber_37 ?_
    refine sm_i2l (pc := 38) dX9_readsNumber_38 ?_
    refine sm_ldc2 (pc := 39) dX9_readsNumber_39 wd_1402 zc_cl_48 ?_
    refine sm_ldc2 (pc := 42) dX9_readsNumber_42 wd_1403 zc_cl_57 ?_
    refine sm_cS (pc := 45) (n := 3) (mc := 0) (ms := 0) m_X9_isIn (cr_X9_283 (X := X_X9_readsNumber) (fr := 2) (frc := 1) (pc := 45) (mc := 0) (ms := 0) rfl (by decide) dX9_readsNumber_45) ?_
    refine sm_if_eq (pc := 48) (tgt := 101) dX9_readsNumber_48 (by decide) ?_ ?_
    · skip
      exact hj101
    · skip
      refine sm_aload_n (pc := 51) (n := 0) dX9_readsNumber_51 rfl ?_
      refine gf_X9_353 (pc := 52) rfl dX9_readsNumber_52 ?_
      refine sm_aload_n (pc := 55) (n := 0) dX9_readsNumber_55 rfl ?_
      refine gf_X9_367 (pc := 56) rfl dX9_readsNumber_56 ?_
      refine sm_isub (pc := 59) dX9_readsNumber_59 ?_
      refine sm_iconst (pc := 60) dX9_readsNumber_60 zc_i_5 ?_
      refine sm_join (pc := 61) (pc' := 88) (sbX9_readsNumber_88 P r18 hr18) (fun j88 hj88 => ?_)
      refine sm_icmp_ge (pc := 61) (tgt := 88) dX9_readsNumber_61 (by decide) ?_ ?_
      · skip
        exact hj88
      · skip
        refine sm_aload_n (pc := 64) (n := 0) dX9_readsNumber_64 rfl ?_
        refine sm_bipush (pc := 65) dX9_readsNumber_65 zc_b_10 ?_
        exact scX9_readsNumber_67 P j88 hj88
noncomputable def b_X9_readsNumber {d : Nat} (P : zP d) : zK d := (xald 0 (xcV 25 1 0 0 f_X9_see (xpop (xald 0 (xald 0 (xgfI 25 47 (xpfI 25 55 (xald 0 (xpI 0 (xpfI 25 54 (xloop (fun r18 => (lX9_readsNumber_18 P r18)) 100000)))))))))))
set_option maxRecDepth 100000 in
set_option maxHeartbeats 4000000 in
theorem s_X9_readsNumber {d : Nat} [zGh] (P : zP d) : zSim X_X9_readsNumber 2 P 0 (b_X9_readsNumber P) := by
  unfold b_X9_readsNumber
  refine sm_aload_n (pc := 0) (n := 0) dX9_readsNumber_0 rfl ?_
  refine sm_cV (pc := 1) (ci := 9) (n := 1) (mc := 0) (ms := 0) rfl m_X9_see (cr_X9_364 (X := X_X9_readsNumber) (fr := 2) (frc := 1) (pc := 1) (mc := 0) (ms := 0) rfl (by decide) dX9_readsNumber_1) ?_
  refine sm_pop (pc := 4) dX9_readsNumber_4 ?_
  refine sm_aload_n (pc := 5) (n := 0) dX9_readsNumber_5 rfl ?_
  refine sm_aload_n (pc := 6) (n := 0) dX9_readsNumber_6 rfl ?_
  refine gf_X9_353 (pc := 7) rfl dX9_readsNumber_7 ?_
  refine pf_X9_367 (pc := 10) rfl dX9_readsNumber_10 ?_
  refine sm_aload_n (pc := 13) (n := 0) dX9_readsNumber_13 rfl ?_
  refine sm_iconst (pc := 14) dX9_readsNumber_14 zc_i_0 ?_
  refine pf_X9_370 (pc := 15) rfl dX9_readsNumber_15 ?_
  exact sm_loop (fun r18 hr18 => slX9_readsNumber_18 P r18 hr18) _
noncomputable def f_X9_readsNumber {d : Nat} : List zV → zH d → zP d → Bool := zfn 1 b_X9_readsNumber
theorem m_X9_readsNumber {d : Nat} : zMet (d := d) X_X9_readsNumber yX9_readsNumber 2 f_X9_readsNumber := zmet_mk (X := X_X9_readsNumber) (by decide) rfl rfl s_X9_readsNumber

abbrev X_X9_isListed : zM := (RX9, cX9_isListed, 3, (some .boolean), "isListed")
noncomputable def lX9_isListed_17 {d : Nat} (P : zP d) (r17 : zK d) : zK d := (xild 2 (xald 0 (xgfI 25 61 (xcmp tge (xpI 1 (xzret P)) (xald 0 (xgfR 25 60 (xild 2 (xald1 0 (xald 0 (xild 1 (xild 2 (xcV 25 3 0 0 f_X9_partOf (xcmp Nat.beq (xinc 2 1 r17) (xpI 0 (xzret P)))))))))))))))
set_option maxRecDepth 100000 in
set_option maxHeartbeats 4000000 in
theorem slX9_isListed_17 {d : Nat} [zGh] (P : zP d) (r17 : zK d) (hr17 : zSim X_X9_isListed 2 P 17 r17) : zSim X_X9_isListed 2 P 17 (lX9_isListed_17 P r17) := by
  unfold lX9_isListed_17
  refine sm_iload_n (pc := 17) (n := 2) dX9_isListed_17 rfl ?_
  refine sm_aload_n (pc := 18) (n := 0) dX9_isListed_18 rfl ?_
  refine gf_X9_380 (pc := 19) rfl dX9_isListed_19 ?_
  refine sm_icmp_ge (pc := 22) (tgt := 48) dX9_isListed_22 (by decide) ?_ ?_
  · skip
    refine sm_iconst (pc := 48) dX9_isListed_48 zc_i_1 ?_
    exact sm_zreturn (pc := 49) dX9_isListed_49 rfl
  · skip
    refine sm_aload_n (pc := 25) (n := 0) dX9_isListed_25 rfl ?_
    refine gf_X9_143 (pc := 26) rfl dX9_isListed_26 ?_
    refine sm_iload_n (pc := 29) (n := 2) dX9_isListed_29 rfl ?_
    refine sm_iaload (pc := 30) dX9_isListed_30 ?_
    refine sm_aload_n (pc := 31) (n := 0) dX9_isListed_31 rfl ?_
    refine sm_iload_n (pc := 32) (n := 1) dX9_isListed_32 rfl ?_
    refine sm_iload_n (pc := 33) (n := 2) dX9_isListed_33 rfl ?_
    refine sm_cV (pc := 34) (ci := 9) (n := 3) (mc := 0) (ms := 0) rfl m_X9_partOf (cr_X9_175 (X := X_X9_isListed) (fr := 2) (frc := 1) (pc := 34) (mc := 0) (ms := 0) rfl (by decide) dX9_isListed_34) ?_
    refine sm_icmp_eq (pc := 37) (tgt := 42) dX9_isListed_37 (by decide) ?_ ?_
    · skip
      refine sm_iinc (pc := 42) (n := 2) dX9_isListed_42 zc_i_1 ?_
      refine sm_goto (pc := 45) (tgt := 17) dX9_isListed_45 (by decide) ?_
      exact hr17
    · skip
      refine sm_iconst (pc := 40) dX9_isListed_40 zc_i_0 ?_
      exact sm_zreturn (pc := 41) dX9_isListed_41 rfl
noncomputable def b_X9_isListed {d : Nat} (P : zP d) : zK d := (xald 0 (xgfI 25 61 (xald 0 (xgfR 25 4 (xild 1 (xald1 0 (xcmp Nat.beq (xpI 0 (xist 2 (xloop (fun r17 => (lX9_isListed_17 P r17)) 100000))) (xpI 0 (xzret P)))))))))
set_option maxRecDepth 100000 in
set_option maxHeartbeats 4000000 in
theorem s_X9_isListed {d : Nat} [zGh] (P : zP d) : zSim X_X9_isListed 2 P 0 (b_X9_isListed P) := by
  unfold b_X9_isListed
  refine sm_aload_n (pc := 0) (n := 0) dX9_isListed_0 rfl ?_
  refine gf_X9_380 (pc := 1) rfl dX9_isListed_1 ?_
  refine sm_aload_n (pc := 4) (n := 0) dX9_isListed_4 rfl ?_
  refine gf_X9_13 (pc := 5) rfl dX9_isListed_5 ?_
  refine sm_iload_n (pc := 8) (n := 1) dX9_isListed_8 rfl ?_
  refine sm_iaload (pc := 9) dX9_isListed_9 ?_
  refine sm_icmp_eq (pc := 10) (tgt := 15) dX9_isListed_10 (by decide) ?_ ?_
  · skip
    refine sm_iconst (pc := 15) dX9_isListed_15 zc_i_0 ?_
    refine sm_istore_n (pc := 16) (n := 2) dX9_isListed_16 rfl ?_
    exact sm_loop (fun r17 hr17 => slX9_isListed_17 P r17 hr17) _
  · skip
    refine sm_iconst (pc := 13) dX9_isListed_13 zc_i_0 ?_
    exact sm_zreturn (pc := 14) dX9_isListed_14 rfl
noncomputable def f_X9_isListed {d : Nat} : List zV → zH d → zP d → Bool := zfn 3 b_X9_isListed
theorem m_X9_isListed {d : Nat} : zMet (d := d) X_X9_isListed yX9_isListed 2 f_X9_isListed := zmet_mk (X := X_X9_isListed) (by decide) rfl rfl s_X9_isListed

abbrev X_X9_readsPart : zM := (RX9, cX9_readsPart, 5, (some .int), "readsPart")
noncomputable def lX9_readsPart_122 {d : Nat} (P : zP d) (r122 : zK d) : zK d := (xild 4 (xald 0 (xgfI 25 2 (xcmp tge (xald 0 (xpI 2 (xild 1 (xcV 25 3 0 0 f_X9_fails (xpop (xpI 4294967295 (xiret P))))))) (xald 0 (xild 4 (xcV 25 2 0 0 f_X9_isListed (xif0 t0eq (xinc 4 1 r122) (xild 4 (xiret P))))))))))
set_option maxRecDepth 100000 in
set_option maxHeartbeats 4000000 in
theorem slX9_readsPart_122 {d : Nat} [zGh] (P : zP d) (r122 : zK d) (hr122 : zSim X_X9_readsPart 3 P 122 r122) : zSim X_X9_readsPart 3 P 122 (lX9_readsPart_122 P r122) := by
  unfold lX9_readsPart_122
  refine sm_iload (pc := 122) (n := 4) dX9_readsPart_122 ?_
  refine sm_aload_n (pc := 124) (n := 0) dX9_readsPart_124 rfl ?_
  refine gf_X9_153 (pc := 125) rfl dX9_readsPart_125 ?_
  refine sm_icmp_ge (pc := 128) (tgt := 149) dX9_readsPart_128 (by decide) ?_ ?_
  · skip
    refine sm_aload_n (pc := 149) (n := 0) dX9_readsPart_149 rfl ?_
    refine sm_iconst (pc := 150) dX9_readsPart_150 zc_i_2 ?_
    refine sm_iload_n (pc := 151) (n := 1) dX9_readsPart_151 rfl ?_
    refine sm_cV (pc := 152) (ci := 9) (n := 3) (mc := 0) (ms := 0) rfl m_X9_fails (cr_X9_377 (X := X_X9_readsPart) (fr := 3) (frc := 1) (pc := 152) (mc := 0) (ms := 0) rfl (by decide) dX9_readsPart_152) ?_
    refine sm_pop (pc := 155) dX9_readsPart_155 ?_
    refine sm_iconst (pc := 156) dX9_readsPart_156 zc_i_m1 ?_
    exact sm_ireturn (pc := 157) dX9_readsPart_157 rfl
  · skip
    refine sm_aload_n (pc := 131) (n := 0) dX9_readsPart_131 rfl ?_
    refine sm_iload (pc := 132) (n := 4) dX9_readsPart_132 ?_
    refine sm_cV (pc := 134) (ci := 9) (n := 2) (mc := 0) (ms := 0) rfl m_X9_isListed (cr_X9_387 (X := X_X9_readsPart) (fr := 3) (frc := 2) (pc := 134) (mc := 0) (ms := 0) rfl (by decide) dX9_readsPart_134) ?_
    refine sm_if_eq (pc := 137) (tgt := 143) dX9_readsPart_137 (by decide) ?_ ?_
    · skip
      refine sm_iinc (pc := 143) (n := 4) dX9_readsPart_143 zc_i_1 ?_
      refine sm_goto (pc := 146) (tgt := 122) dX9_readsPart_146 (by decide) ?_
      exact hr122
    · skip
      refine sm_iload (pc := 140) (n := 4) dX9_readsPart_140 ?_
      exact sm_ireturn (pc := 142) dX9_readsPart_142 rfl
noncomputable def bX9_readsPart_110 {d : Nat} (P : zP d) (r24 : zK d) : zK d := (xist 3 r24)
set_option maxRecDepth 100000 in
set_option maxHeartbeats 4000000 in
theorem sbX9_readsPart_110 {d : Nat} [zGh] (P : zP d) (r24 : zK d) (hr24 : zSim X_X9_readsPart 3 P 24 r24) : zSim X_X9_readsPart 3 P 110 (bX9_readsPart_110 P r24) := by
  unfold bX9_readsPart_110
  refine sm_istore_n (pc := 110) (n := 3) dX9_readsPart_110 rfl ?_
  refine sm_goto (pc := 111) (tgt := 24) dX9_readsPart_111 (by decide) ?_
  exact hr24
noncomputable def bX9_readsPart_88 {d : Nat} (P : zP d) (r24 : zK d) : zK d := (xald 0 (xdup (xgfI 25 47 (xpI 1 (xbin zadd (xpfI 25 47 (xild 4 (xpI 44 (xjoin (bX9_readsPart_110 P r24) (fun j110 => (xcmp Nat.beq (xpI 1 j110) (xpI 0 j110))))))))))))
set_option maxRecDepth 100000 in
set_option maxHeartbeats 4000000 in
theorem sbX9_readsPart_88 {d : Nat} [zGh] (P : zP d) (r24 : zK d) (hr24 : zSim X_X9_readsPart 3 P 24 r24) : zSim X_X9_readsPart 3 P 88 (bX9_readsPart_88 P r24) := by
  unfold bX9_readsPart_88
  refine sm_aload_n (pc := 88) (n := 0) dX9_readsPart_88 rfl ?_
  refine sm_dup (pc := 89) dX9_readsPart_89 ?_
  refine gf_X9_353 (pc := 90) rfl dX9_readsPart_90 ?_
  refine sm_iconst (pc := 93) dX9_readsPart_93 zc_i_1 ?_
  refine sm_iadd (pc := 94) dX9_readsPart_94 ?_
  refine pf_X9_353 (pc := 95) rfl dX9_readsPart_95 ?_
  refine sm_iload (pc := 98) (n := 4) dX9_readsPart_98 ?_
  refine sm_bipush (pc := 100) dX9_readsPart_100 zc_b_44 ?_
  refine sm_join (pc := 102) (pc' := 110) (sbX9_readsPart_110 P r24 hr24) (fun j110 hj110 => ?_)
  refine sm_icmp_ne (pc := 102) (tgt := 109) dX9_readsPart_102 (by decide) ?_ ?_
  · skip
    refine sm_iconst (pc := 109) dX9_readsPart_109 zc_i_0 ?_
    exact hj110
  · skip
    refine sm_iconst (pc := 105) dX9_readsPart_105 zc_i_1 ?_
    refine sm_goto (pc := 106) (tgt := 110) dX9_readsPart_106 (by decide) ?_
    exact hj110
noncomputable def bX9_readsPart_53 {d : Nat} (P : zP d) (r24 : zK d) : zK d := (xinc 2 1 (xald 0 (xcV 25 1 0 0 f_X9_see (xist 4 (xild 4 (xpI 44 (xjoin (bX9_readsPart_88 P r24) (fun j88 => (xcmp Nat.beq j88 (xild 4 (xpI 93 (xcmp Nat.beq j88 (xald 0 (xpI 1 (xald 0 (xgfI 25 47 (xcV 25 3 0 0 f_X9_fails (xpop (xpI 4294967295 (xiret P))))))))))))))))))))
set_option maxRecDepth 100000 in
set_option maxHeartbeats 4000000 in
theorem sbX9_readsPart_53 {d : Nat} [zGh] (P : zP d) (r24 : zK d) (hr24 : zSim X_X9_readsPart 3 P 24 r24) : zSim X_X9_readsPart 3 P 53 (bX9_readsPart_53 P r24) := by
  unfold bX9_readsPart_53
  refine sm_iinc (pc := 53) (n := 2) dX9_readsPart_53 zc_i_1 ?_
  refine sm_aload_n (pc := 56) (n := 0) dX9_readsPart_56 rfl ?_
  refine sm_cV (pc := 57) (ci := 9) (n := 1) (mc := 0) (ms := 0) rfl m_X9_see (cr_X9_364 (X := X_X9_readsPart) (fr := 3) (frc := 1) (pc := 57) (mc := 0) (ms := 0) rfl (by decide) dX9_readsPart_57) ?_
  refine sm_istore (pc := 60) (n := 4) dX9_readsPart_60 ?_
  refine sm_iload (pc := 62) (n := 4) dX9_readsPart_62 ?_
  refine sm_bipush (pc := 64) dX9_readsPart_64 zc_b_44 ?_
  refine sm_join (pc := 66) (pc' := 88) (sbX9_readsPart_88 P r24 hr24) (fun j88 hj88 => ?_)
  refine sm_icmp_eq (pc := 66) (tgt := 88) dX9_readsPart_66 (by decide) ?_ ?_
  · skip
    exact hj88
  · skip
    refine sm_iload (pc := 69) (n := 4) dX9_readsPart_69 ?_
    refine sm_bipush (pc := 71) dX9_readsPart_71 zc_b_93 ?_
    refine sm_icmp_eq (pc := 73) (tgt := 88) dX9_readsPart_73 (by decide) ?_ ?_
    · skip
      exact hj88
    · skip
      refine sm_aload_n (pc := 76) (n := 0) dX9_readsPart_76 rfl ?_
      refine sm_iconst (pc := 77) dX9_readsPart_77 zc_i_1 ?_
      refine sm_aload_n (pc := 78) (n := 0) dX9_readsPart_78 rfl ?_
      refine gf_X9_353 (pc := 79) rfl dX9_readsPart_79 ?_
      refine sm_cV (pc := 82) (ci := 9) (n := 3) (mc := 0) (ms := 0) rfl m_X9_fails (cr_X9_377 (X := X_X9_readsPart) (fr := 3) (frc := 1) (pc := 82) (mc := 0) (ms := 0) rfl (by decide) dX9_readsPart_82) ?_
      refine sm_pop (pc := 85) dX9_readsPart_85 ?_
      refine sm_iconst (pc := 86) dX9_readsPart_86 zc_i_m1 ?_
      exact sm_ireturn (pc := 87) dX9_readsPart_87 rfl
noncomputable def lX9_readsPart_24 {d : Nat} (P : zP d) (r24 : zK d) : zK d := (xild 3 (xif0 t0eq (xald 0 (xild 2 (xpfI 25 61 (xpI 0 (xist 4 (xloop (fun r122 => (lX9_readsPart_122 P r122)) 100000)))))) (xald 0 (xcV 25 1 0 0 f_X9_readsNumber (xif0 t0eq (xpI 4294967295 (xiret P)) (xild 2 (xpI 6 (xjoin (bX9_readsPart_53 P r24) (fun j53 => (xcmp tge j53 (xald 0 (xgfR 25 60 (xild 2 (xald 0 (xgfI 25 54 (xast1 0 (fun v => v) j53))))))))))))))))
set_option maxRecDepth 100000 in
set_option maxHeartbeats 4000000 in
theorem slX9_readsPart_24 {d : Nat} [zGh] (P : zP d) (r24 : zK d) (hr24 : zSim X_X9_readsPart 3 P 24 r24) : zSim X_X9_readsPart 3 P 24 (lX9_readsPart_24 P r24) := by
  unfold lX9_readsPart_24
  refine sm_iload_n (pc := 24) (n := 3) dX9_readsPart_24 rfl ?_
  refine sm_if_eq (pc := 25) (tgt := 114) dX9_readsPart_25 (by decide) ?_ ?_
  · skip
    refine sm_aload_n (pc := 114) (n := 0) dX9_readsPart_114 rfl ?_
    refine sm_iload_n (pc := 115) (n := 2) dX9_readsPart_115 rfl ?_
    refine pf_X9_380 (pc := 116) rfl dX9_readsPart_116 ?_
    refine sm_iconst (pc := 119) dX9_readsPart_119 zc_i_0 ?_
    refine sm_istore (pc := 120) (n := 4) dX9_readsPart_120 ?_
    exact sm_loop (fun r122 hr122 => slX9_readsPart_122 P r122 hr122) _
  · skip
    refine sm_aload_n (pc := 28) (n := 0) dX9_readsPart_28 rfl ?_
    refine sm_cV (pc := 29) (ci := 9) (n := 1) (mc := 0) (ms := 0) rfl m_X9_readsNumber (cr_X9_383 (X := X_X9_readsPart) (fr := 3) (frc := 2) (pc := 29) (mc := 0) (ms := 0) rfl (by decide) dX9_readsPart_29) ?_
    refine sm_if_ne (pc := 32) (tgt := 37) dX9_readsPart_32 (by decide) ?_ ?_
    · skip
      refine sm_iload_n (pc := 37) (n := 2) dX9_readsPart_37 rfl ?_
      refine sm_bipush (pc := 38) dX9_readsPart_38 zc_b_6 ?_
      refine sm_join (pc := 40) (pc' := 53) (sbX9_readsPart_53 P r24 hr24) (fun j53 hj53 => ?_)
      refine sm_icmp_ge (pc := 40) (tgt := 53) dX9_readsPart_40 (by decide) ?_ ?_
      · skip
        exact hj53
      · skip
        refine sm_aload_n (pc := 43) (n := 0) dX9_readsPart_43 rfl ?_
        refine gf_X9_143 (pc := 44) rfl dX9_readsPart_44 ?_
        refine sm_iload_n (pc := 47) (n := 2) dX9_readsPart_47 rfl ?_
        refine sm_aload_n (pc := 48) (n := 0) dX9_readsPart_48 rfl ?_
        refine gf_X9_370 (pc := 49) rfl dX9_readsPart_49 ?_
        refine sm_iastore (pc := 52) dX9_readsPart_52 ?_
        exact hj53
    · skip
      refine sm_iconst (pc := 35) dX9_readsPart_35 zc_i_m1 ?_
      exact sm_ireturn (pc := 36) dX9_readsPart_36 rfl
noncomputable def b_X9_readsPart {d : Nat} (P : zP d) : zK d := (xald 0 (xgfI 25 47 (xist 1 (xald 0 (xdup (xgfI 25 47 (xpI 1 (xbin zadd (xpfI 25 47 (xald 0 (xpI 0 (xpfI 25 61 (xpI 0 (xist 2 (xpI 1 (xist 3 (xloop (fun r24 => (lX9_readsPart_24 P r24)) 100000)))))))))))))))))
set_option maxRecDepth 100000 in
set_option maxHeartbeats 4000000 in
theorem s_X9_readsPart {d : Nat} [zGh] (P : zP d) : zSim X_X9_readsPart 3 P 0 (b_X9_readsPart P) := by
  unfold b_X9_readsPart
  refine sm_aload_n (pc := 0) (n := 0) dX9_readsPart_0 rfl ?_
  refine gf_X9_353 (pc := 1) rfl dX9_readsPart_1 ?_
  refine sm_istore_n (pc := 4) (n := 1) dX9_readsPart_4 rfl ?_
  refine sm_aload_n (pc := 5) (n := 0) dX9_readsPart_5 rfl ?_
  refine sm_dup (pc := 6) dX9_readsPart_6 ?_
  refine gf_X9_353 (pc := 7) rfl dX9_readsPart_7 ?_
  refine sm_iconst (pc := 10) dX9_readsPart_10 zc_i_1 ?_
  refine sm_iadd (pc := 11) dX9_readsPart_11 ?_
  refine pf_X9_353 (pc := 12) rfl dX9_readsPart_12 ?_
  refine sm_aload_n (pc := 15) (n := 0) dX9_readsPart_15 rfl ?_
  refine sm_iconst (pc := 16) dX9_readsPart_16 zc_i_0 ?_
  refine pf_X9_380 (pc := 17) rfl dX9_readsPart_17 ?_
  refine sm_iconst (pc := 20) dX9_readsPart_20 zc_i_0 ?_
  refine sm_istore_n (pc := 21) (n := 2) dX9_readsPart_21 rfl ?_
  refine sm_iconst (pc := 22) dX9_readsPart_22 zc_i_1 ?_
  refine sm_istore_n (pc := 23) (n := 3) dX9_readsPart_23 rfl ?_
  exact sm_loop (fun r24 hr24 => slX9_readsPart_24 P r24 hr24) _
noncomputable def f_X9_readsPart {d : Nat} : List zV → zH d → zP d → Bool := zfn 5 b_X9_readsPart
theorem m_X9_readsPart {d : Nat} : zMet (d := d) X_X9_readsPart yX9_readsPart 3 f_X9_readsPart := zmet_mk (X := X_X9_readsPart) (by decide) rfl rfl s_X9_readsPart

abbrev X_X9_fillings : zM := (RX9, cX9_fillings, 6, (some .int), "fillings")
noncomputable def bX9_fillings_94 {d : Nat} (self : List zV → zH d → zP d → Bool) (P : zP d) (r18 : zK d) : zK d := (xinc 5 1 r18)
set_option maxRecDepth 100000 in
set_option maxHeartbeats 4000000 in
theorem sbX9_fillings_94 {d : Nat} [zGh] (n : Nat) (self : List zV → zH d → zP d → Bool) (hself : zMet X_X9_fillings yX9_fillings (1 + n) self) (P : zP d) (r18 : zK d) (hr18 : zSim X_X9_fillings (1 + (n + 1)) P 18 r18) : zSim X_X9_fillings (1 + (n + 1)) P 94 (bX9_fillings_94 self P r18) := by
  unfold bX9_fillings_94
  refine sm_iinc (pc := 94) (n := 5) dX9_fillings_94 zc_i_1 ?_
  refine sm_goto (pc := 97) (tgt := 18) dX9_fillings_97 (by decide) ?_
  exact hr18
noncomputable def cX9_fillings_62 {d : Nat} (self : List zV → zH d → zP d → Bool) (P : zP d) (j94 : zK d) : zK d := (xbin zsub (xast1 0 (fun v => v) (xild 4 (xald 0 (xild 1 (xild 2 (xild 3 (xpI 1 (xbin zadd (xcV 25 4 0 0 self (xbin zadd (xist 4 (xald 0 (xgfR 25 62 (xild 5 (xdup2 (xald1 0 (xald 0 (xild 2 (xild 3 (xcV 25 3 0 0 f_X9_partOf (xbin zadd (xast1 0 (fun v => v) j94)))))))))))))))))))))))
set_option maxRecDepth 100000 in
set_option maxHeartbeats 4000000 in
theorem scX9_fillings_62 {d : Nat} [zGh] (n : Nat) (self : List zV → zH d → zP d → Bool) (hself : zMet X_X9_fillings yX9_fillings (1 + n) self) (P : zP d) (j94 : zK d) (hj94 : zSim X_X9_fillings (1 + (n + 1)) P 94 j94) : zSim X_X9_fillings (1 + (n + 1)) P 62 (cX9_fillings_62 self P j94) := by
  unfold cX9_fillings_62
  refine sm_isub (pc := 62) dX9_fillings_62 ?_
  refine sm_iastore (pc := 63) dX9_fillings_63 ?_
  refine sm_iload (pc := 64) (n := 4) dX9_fillings_64 ?_
  refine sm_aload_n (pc := 66) (n := 0) dX9_fillings_66 rfl ?_
  refine sm_iload_n (pc := 67) (n := 1) dX9_fillings_67 rfl ?_
  refine sm_iload_n (pc := 68) (n := 2) dX9_fillings_68 rfl ?_
  refine sm_iload_n (pc := 69) (n := 3) dX9_fillings_69 rfl ?_
  refine sm_iconst (pc := 70) dX9_fillings_70 zc_i_1 ?_
  refine sm_iadd (pc := 71) dX9_fillings_71 ?_
  refine sm_cV (pc := 72) (ci := 9) (n := 4) (mc := 0) (ms := 0) rfl hself (cr_X9_390 (X := X_X9_fillings) (fr := 1 + (n + 1)) (frc := 1 + n) (pc := 72) (mc := 0) (ms := 0) rfl (by omega) dX9_fillings_72) ?_
  refine sm_iadd (pc := 75) dX9_fillings_75 ?_
  refine sm_istore (pc := 76) (n := 4) dX9_fillings_76 ?_
  refine sm_aload_n (pc := 78) (n := 0) dX9_fillings_78 rfl ?_
  refine gf_X9_146 (pc := 79) rfl dX9_fillings_79 ?_
  refine sm_iload (pc := 82) (n := 5) dX9_fillings_82 ?_
  refine sm_dup2 (pc := 84) dX9_fillings_84 ?_
  refine sm_iaload (pc := 85) dX9_fillings_85 ?_
  refine sm_aload_n (pc := 86) (n := 0) dX9_fillings_86 rfl ?_
  refine sm_iload_n (pc := 87) (n := 2) dX9_fillings_87 rfl ?_
  refine sm_iload_n (pc := 88) (n := 3) dX9_fillings_88 rfl ?_
  refine sm_cV (pc := 89) (ci := 9) (n := 3) (mc := 0) (ms := 0) rfl m_X9_partOf (cr_X9_175 (X := X_X9_fillings) (fr := 1 + (n + 1)) (frc := 1) (pc := 89) (mc := 0) (ms := 0) rfl (by omega) dX9_fillings_89) ?_
  refine sm_iadd (pc := 92) dX9_fillings_92 ?_
  refine sm_iastore (pc := 93) dX9_fillings_93 ?_
  exact hj94
noncomputable def lX9_fillings_18 {d : Nat} (self : List zV → zH d → zP d → Bool) (P : zP d) (r18 : zK d) : zK d := (xild 5 (xald 0 (xgfR 25 4 (xild 1 (xald1 0 (xcmp tge (xild 4 (xiret P)) (xald 0 (xgfR 25 62 (xild 5 (xald1 0 (xald 0 (xild 2 (xild 3 (xcV 25 3 0 0 f_X9_partOf (xjoin (bX9_fillings_94 self P r18) (fun j94 => (xcmp tge (xald 0 (xgfR 25 62 (xild 5 (xdup2 (xald1 0 (xald 0 (xild 2 (xild 3 (xcV 25 3 0 0 f_X9_partOf (cX9_fillings_62 self P j94)))))))))) j94)))))))))))))))))
set_option maxRecDepth 100000 in
set_option maxHeartbeats 4000000 in
theorem slX9_fillings_18 {d : Nat} [zGh] (n : Nat) (self : List zV → zH d → zP d → Bool) (hself : zMet X_X9_fillings yX9_fillings (1 + n) self) (P : zP d) (r18 : zK d) (hr18 : zSim X_X9_fillings (1 + (n + 1)) P 18 r18) : zSim X_X9_fillings (1 + (n + 1)) P 18 (lX9_fillings_18 self P r18) := by
  unfold lX9_fillings_18
  refine sm_iload (pc := 18) (n := 5) dX9_fillings_18 ?_
  refine sm_aload_n (pc := 20) (n := 0) dX9_fillings_20 rfl ?_
  refine gf_X9_13 (pc := 21) rfl dX9_fillings_21 ?_
  refine sm_iload_n (pc := 24) (n := 1) dX9_fillings_24 rfl ?_
  refine sm_iaload (pc := 25) dX9_fillings_25 ?_
  refine sm_icmp_ge (pc := 26) (tgt := 100) dX9_fillings_26 (by decide) ?_ ?_
  · skip
    refine sm_iload (pc := 100) (n := 4) dX9_fillings_100 ?_
    exact sm_ireturn (pc := 102) dX9_fillings_102 rfl
  · skip
    refine sm_aload_n (pc := 29) (n := 0) dX9_fillings_29 rfl ?_
    refine gf_X9_146 (pc := 30) rfl dX9_fillings_30 ?_
    refine sm_iload (pc := 33) (n := 5) dX9_fillings_33 ?_
    refine sm_iaload (pc := 35) dX9_fillings_35 ?_
    refine sm_aload_n (pc := 36) (n := 0) dX9_fillings_36 rfl ?_
    refine sm_iload_n (pc := 37) (n := 2) dX9_fillings_37 rfl ?_
    refine sm_iload_n (pc := 38) (n := 3) dX9_fillings_38 rfl ?_
    refine sm_cV (pc := 39) (ci := 9) (n := 3) (mc := 0) (ms := 0) rfl m_X9_partOf (cr_X9_175 (X := X_X9_fillings) (fr := 1 + (n + 1)) (frc := 1) (pc := 39) (mc := 0) (ms := 0) rfl (by omega) dX9_fillings_39) ?_
    refine sm_join (pc := 42) (pc' := 94) (sbX9_fillings_94 n self hself P r18 hr18) (fun j94 hj94 => ?_)
    refine sm_icmp_ge (pc := 42) (tgt := 48) dX9_fillings_42 (by decide) ?_ ?_
    · skip
      refine sm_aload_n (pc := 48) (n := 0) dX9_fillings_48 rfl ?_
      refine gf_X9_146 (pc := 49) rfl dX9_fillings_49 ?_
      refine sm_iload (pc := 52) (n := 5) dX9_fillings_52 ?_
      refine sm_dup2 (pc := 54) dX9_fillings_54 ?_
      refine sm_iaload (pc := 55) dX9_fillings_55 ?_
      refine sm_aload_n (pc := 56) (n := 0) dX9_fillings_56 rfl ?_
      refine sm_iload_n (pc := 57) (n := 2) dX9_fillings_57 rfl ?_
      refine sm_iload_n (pc := 58) (n := 3) dX9_fillings_58 rfl ?_
      refine sm_cV (pc := 59) (ci := 9) (n := 3) (mc := 0) (ms := 0) rfl m_X9_partOf (cr_X9_175 (X := X_X9_fillings) (fr := 1 + (n + 1)) (frc := 1) (pc := 59) (mc := 0) (ms := 0) rfl (by omega) dX9_fillings_59) ?_
      exact scX9_fillings_62 n self hself P j94 hj94
    · skip
      refine sm_goto (pc := 45) (tgt := 94) dX9_fillings_45 (by decide) ?_
      exact hj94
noncomputable def b_X9_fillings {d : Nat} (self : List zV → zH d → zP d → Bool) (P : zP d) : zK d := (xild 3 (xald 0 (xgfR 25 4 (xild 2 (xald1 0 (xcmp Nat.beq (xpI 1 (xiret P)) (xpI 0 (xist 4 (xpI 0 (xist 5 (xloop (fun r18 => (lX9_fillings_18 self P r18)) 100000)))))))))))
set_option maxRecDepth 100000 in
set_option maxHeartbeats 4000000 in
theorem s_X9_fillings {d : Nat} [zGh] (n : Nat) (self : List zV → zH d → zP d → Bool) (hself : zMet X_X9_fillings yX9_fillings (1 + n) self) (P : zP d) : zSim X_X9_fillings (1 + (n + 1)) P 0 (b_X9_fillings self P) := by
  unfold b_X9_fillings
  refine sm_iload_n (pc := 0) (n := 3) dX9_fillings_0 rfl ?_
  refine sm_aload_n (pc := 1) (n := 0) dX9_fillings_1 rfl ?_
  refine gf_X9_13 (pc := 2) rfl dX9_fillings_2 ?_
  refine sm_iload_n (pc := 5) (n := 2) dX9_fillings_5 rfl ?_
  refine sm_iaload (pc := 6) dX9_fillings_6 ?_
  refine sm_icmp_ne (pc := 7) (tgt := 12) dX9_fillings_7 (by decide) ?_ ?_
  · skip
    refine sm_iconst (pc := 12) dX9_fillings_12 zc_i_0 ?_
    refine sm_istore (pc := 13) (n := 4) dX9_fillings_13 ?_
    refine sm_iconst (pc := 15) dX9_fillings_15 zc_i_0 ?_
    refine sm_istore (pc := 16) (n := 5) dX9_fillings_16 ?_
    exact sm_loop (fun r18 hr18 => slX9_fillings_18 n self hself P r18 hr18) _
  · skip
    refine sm_iconst (pc := 10) dX9_fillings_10 zc_i_1 ?_
    exact sm_ireturn (pc := 11) dX9_fillings_11 rfl
noncomputable def f_X9_fillings {d : Nat} : List zV → zH d → zP d → Bool := zrec 6 b_X9_fillings 8
theorem m_X9_fillings {d : Nat} : zMet (d := d) X_X9_fillings yX9_fillings 9 f_X9_fillings := zmet_rec (X := X_X9_fillings) (fr := 1) (by decide) rfl rfl (fun n f hf _ P => s_X9_fillings n f hf P) 8

abbrev X_X9_readsNamed : zM := (RX9, cX9_readsNamed, 6, (some .boolean), "readsNamed")
noncomputable def bX9_readsNamed_217 {d : Nat} (P : zP d) (r83 : zK d) : zK d := (xlas (xinc 4 1 r83))
set_option maxRecDepth 100000 in
set_option maxHeartbeats 4000000 in
theorem sbX9_readsNamed_217 {d : Nat} [zGh] (P : zP d) (r83 : zK d) (hr83 : zSim X_X9_readsNamed 10 P 83 r83) : zSim X_X9_readsNamed 10 P 217 (bX9_readsNamed_217 P r83) := by
  unfold bX9_readsNamed_217
  refine sm_lastore (pc := 217) dX9_readsNamed_217 ?_
  refine sm_iinc (pc := 218) (n := 4) dX9_readsNamed_218 zc_i_1 ?_
  refine sm_goto (pc := 221) (tgt := 83) dX9_readsNamed_221 (by decide) ?_
  exact hr83
noncomputable def cX9_readsNamed_207 {d : Nat} (P : zP d) (j217 : zK d) : zK d := (xbin zmul (xild 4 (xbin zadd (xald1 0 (xi2l j217)))))
set_option maxRecDepth 100000 in
set_option maxHeartbeats 4000000 in
theorem scX9_readsNamed_207 {d : Nat} [zGh] (P : zP d) (j217 : zK d) (hj217 : zSim X_X9_readsNamed 10 P 217 j217) : zSim X_X9_readsNamed 10 P 207 (cX9_readsNamed_207 P j217) := by
  unfold cX9_readsNamed_207
  refine sm_imul (pc := 207) dX9_readsNamed_207 ?_
  refine sm_iload (pc := 208) (n := 4) dX9_readsNamed_208 ?_
  refine sm_iadd (pc := 210) dX9_readsNamed_210 ?_
  refine sm_iaload (pc := 211) dX9_readsNamed_211 ?_
  refine sm_i2l (pc := 212) dX9_readsNamed_212 ?_
  refine sm_goto (pc := 213) (tgt := 217) dX9_readsNamed_213 (by decide) ?_
  exact hj217
noncomputable def lX9_readsNamed_95 {d : Nat} (P : zP d) (r83 : zK d) (r95 : zK d) : zK d := (xild 5 (xpI 6 (xcmp tge (xald 0 (xgfR 25 58 (xild 4 (xild 1 (xpI 91 (xjoin (bX9_readsNamed_217 P r83) (fun j217 => (xcmp Nat.beq (xald 0 (xgfR 25 14 (xpI 11 (xild 3 (xbin zmul (xild 4 (xbin zadd (xald1 0 (xi2l j217))))))))) (xild 1 (xpI 80 (xcmp Nat.beq (xald 0 (xgfR 25 40 (xpI 11 (xild 3 (xbin zmul (xild 4 (xbin zadd (xald1 0 (xi2l j217))))))))) (xild 1 (xpI 77 (xcmp Nat.beq (xald 0 (xild 3 (xild 4 (xpI 0 (xcV 25 4 0 0 f_X9_fillings (xi2l j217)))))) (xald 0 (xgfR 25 8 (xild 4 (xald1 1 (xif0 t0eq (xpL 0 j217) (xald 0 (xgfR 25 37 (xpI 11 (xild 3 (cX9_readsNamed_207 P j217)))))))))))))))))))))))) (xald 0 (xgfR 25 62 (xild 5 (xald 0 (xild 3 (xild 5 (xcV 25 3 0 0 f_X9_partOf (xast1 0 (fun v => v) (xinc 5 1 r95))))))))))))
set_option maxRecDepth 100000 in
set_option maxHeartbeats 4000000 in
theorem slX9_readsNamed_95 {d : Nat} [zGh] (P : zP d) (r83 : zK d) (r95 : zK d) (hr83 : zSim X_X9_readsNamed 10 P 83 r83) (hr95 : zSim X_X9_readsNamed 10 P 95 r95) : zSim X_X9_readsNamed 10 P 95 (lX9_readsNamed_95 P r83 r95) := by
  unfold lX9_readsNamed_95
  refine sm_iload (pc := 95) (n := 5) dX9_readsNamed_95 ?_
  refine sm_bipush (pc := 97) dX9_readsNamed_97 zc_b_6 ?_
  refine sm_icmp_ge (pc := 99) (tgt := 122) dX9_readsNamed_99 (by decide) ?_ ?_
  · skip
    refine sm_aload_n (pc := 122) (n := 0) dX9_readsNamed_122 rfl ?_
    refine gf_X9_140 (pc := 123) rfl dX9_readsNamed_123 ?_
    refine sm_iload (pc := 126) (n := 4) dX9_readsNamed_126 ?_
    refine sm_iload_n (pc := 128) (n := 1) dX9_readsNamed_128 rfl ?_
    refine sm_bipush (pc := 129) dX9_readsNamed_129 zc_b_91 ?_
    refine sm_join (pc := 131) (pc' := 217) (sbX9_readsNamed_217 P r83 hr83) (fun j217 hj217 => ?_)
    refine sm_icmp_ne (pc := 131) (tgt := 150) dX9_readsNamed_131 (by decide) ?_ ?_
    · skip
      refine sm_iload_n (pc := 150) (n := 1) dX9_readsNamed_150 rfl ?_
      refine sm_bipush (pc := 151) dX9_readsNamed_151 zc_b_80 ?_
      refine sm_icmp_ne (pc := 153) (tgt := 172) dX9_readsNamed_153 (by decide) ?_ ?_
      · skip
        refine sm_iload_n (pc := 172) (n := 1) dX9_readsNamed_172 rfl ?_
        refine sm_bipush (pc := 173) dX9_readsNamed_173 zc_b_77 ?_
        refine sm_icmp_ne (pc := 175) (tgt := 190) dX9_readsNamed_175 (by decide) ?_ ?_
        · skip
          refine sm_aload_n (pc := 190) (n := 0) dX9_readsNamed_190 rfl ?_
          refine gf_X9_26 (pc := 191) rfl dX9_readsNamed_191 ?_
          refine sm_iload (pc := 194) (n := 4) dX9_readsNamed_194 ?_
          refine sm_baload (pc := 196) dX9_readsNamed_196 ?_
          refine sm_if_eq (pc := 197) (tgt := 216) dX9_readsNamed_197 (by decide) ?_ ?_
          · skip
            refine sm_lconst (pc := 216) dX9_readsNamed_216 zc_l_0 ?_
            exact hj217
          · skip
            refine sm_aload_n (pc := 200) (n := 0) dX9_readsNamed_200 rfl ?_
            refine gf_X9_96 (pc := 201) rfl dX9_readsNamed_201 ?_
            refine sm_bipush (pc := 204) dX9_readsNamed_204 zc_b_11 ?_
            refine sm_iload_n (pc := 206) (n := 3) dX9_readsNamed_206 rfl ?_
            exact scX9_readsNamed_207 P j217 hj217
        · skip
          refine sm_aload_n (pc := 178) (n := 0) dX9_readsNamed_178 rfl ?_
          refine sm_iload_n (pc := 179) (n := 3) dX9_readsNamed_179 rfl ?_
          refine sm_iload (pc := 180) (n := 4) dX9_readsNamed_180 ?_
          refine sm_iconst (pc := 182) dX9_readsNamed_182 zc_i_0 ?_
          refine sm_cV (pc := 183) (ci := 9) (n := 4) (mc := 0) (ms := 0) rfl m_X9_fillings (cr_X9_390 (X := X_X9_readsNamed) (fr := 10) (frc := 9) (pc := 183) (mc := 0) (ms := 0) rfl (by decide) dX9_readsNamed_183) ?_
          refine sm_i2l (pc := 186) dX9_readsNamed_186 ?_
          refine sm_goto (pc := 187) (tgt := 217) dX9_readsNamed_187 (by decide) ?_
          exact hj217
      · skip
        refine sm_aload_n (pc := 156) (n := 0) dX9_readsNamed_156 rfl ?_
        refine gf_X9_105 (pc := 157) rfl dX9_readsNamed_157 ?_
        refine sm_bipush (pc := 160) dX9_readsNamed_160 zc_b_11 ?_
        refine sm_iload_n (pc := 162) (n := 3) dX9_readsNamed_162 rfl ?_
        refine sm_imul (pc := 163) dX9_readsNamed_163 ?_
        refine sm_iload (pc := 164) (n := 4) dX9_readsNamed_164 ?_
        refine sm_iadd (pc := 166) dX9_readsNamed_166 ?_
        refine sm_iaload (pc := 167) dX9_readsNamed_167 ?_
        refine sm_i2l (pc := 168) dX9_readsNamed_168 ?_
        refine sm_goto (pc := 169) (tgt := 217) dX9_readsNamed_169 (by decide) ?_
        exact hj217
    · skip
      refine sm_aload_n (pc := 134) (n := 0) dX9_readsNamed_134 rfl ?_
      refine gf_X9_38 (pc := 135) rfl dX9_readsNamed_135 ?_
      refine sm_bipush (pc := 138) dX9_readsNamed_138 zc_b_11 ?_
      refine sm_iload_n (pc := 140) (n := 3) dX9_readsNamed_140 rfl ?_
      refine sm_imul (pc := 141) dX9_readsNamed_141 ?_
      refine sm_iload (pc := 142) (n := 4) dX9_readsNamed_142 ?_
      refine sm_iadd (pc := 144) dX9_readsNamed_144 ?_
      refine sm_iaload (pc := 145) dX9_readsNamed_145 ?_
      refine sm_i2l (pc := 146) dX9_readsNamed_146 ?_
      refine sm_goto (pc := 147) (tgt := 217) dX9_readsNamed_147 (by decide) ?_
      exact hj217
  · skip
    refine sm_aload_n (pc := 102) (n := 0) dX9_readsNamed_102 rfl ?_
    refine gf_X9_146 (pc := 103) rfl dX9_readsNamed_103 ?_
    refine sm_iload (pc := 106) (n := 5) dX9_readsNamed_106 ?_
    refine sm_aload_n (pc := 108) (n := 0) dX9_readsNamed_108 rfl ?_
    refine sm_iload_n (pc := 109) (n := 3) dX9_readsNamed_109 rfl ?_
    refine sm_iload (pc := 110) (n := 5) dX9_readsNamed_110 ?_
    refine sm_cV (pc := 112) (ci := 9) (n := 3) (mc := 0) (ms := 0) rfl m_X9_partOf (cr_X9_175 (X := X_X9_readsNamed) (fr := 10) (frc := 1) (pc := 112) (mc := 0) (ms := 0) rfl (by decide) dX9_readsNamed_112) ?_
    refine sm_iastore (pc := 115) dX9_readsNamed_115 ?_
    refine sm_iinc (pc := 116) (n := 5) dX9_readsNamed_116 zc_i_1 ?_
    refine sm_goto (pc := 119) (tgt := 95) dX9_readsNamed_119 (by decide) ?_
    exact hr95
noncomputable def lX9_readsNamed_83 {d : Nat} (P : zP d) (r83 : zK d) : zK d := (xild 4 (xald 0 (xgfI 25 2 (xcmp tge (xpI 1 (xzret P)) (xpI 0 (xist 5 (xloop (fun r95 => (lX9_readsNamed_95 P r83 r95)) 100000)))))))
set_option maxRecDepth 100000 in
set_option maxHeartbeats 4000000 in
theorem slX9_readsNamed_83 {d : Nat} [zGh] (P : zP d) (r83 : zK d) (hr83 : zSim X_X9_readsNamed 10 P 83 r83) : zSim X_X9_readsNamed 10 P 83 (lX9_readsNamed_83 P r83) := by
  unfold lX9_readsNamed_83
  refine sm_iload (pc := 83) (n := 4) dX9_readsNamed_83 ?_
  refine sm_aload_n (pc := 85) (n := 0) dX9_readsNamed_85 rfl ?_
  refine gf_X9_153 (pc := 86) rfl dX9_readsNamed_86 ?_
  refine sm_icmp_ge (pc := 89) (tgt := 224) dX9_readsNamed_89 (by decide) ?_ ?_
  · skip
    refine sm_iconst (pc := 224) dX9_readsNamed_224 zc_i_1 ?_
    exact sm_zreturn (pc := 225) dX9_readsNamed_225 rfl
  · skip
    refine sm_iconst (pc := 92) dX9_readsNamed_92 zc_i_0 ?_
    refine sm_istore (pc := 93) (n := 5) dX9_readsNamed_93 ?_
    exact sm_loop (fun r95 hr95 => slX9_readsNamed_95 P r83 r95 hr83 hr95) _
noncomputable def bX9_readsNamed_80 {d : Nat} (P : zP d) : zK d := (xpI 0 (xist 4 (xloop (fun r83 => (lX9_readsNamed_83 P r83)) 100000)))
set_option maxRecDepth 100000 in
set_option maxHeartbeats 4000000 in
theorem sbX9_readsNamed_80 {d : Nat} [zGh] (P : zP d) : zSim X_X9_readsNamed 10 P 80 (bX9_readsNamed_80 P) := by
  unfold bX9_readsNamed_80
  refine sm_iconst (pc := 80) dX9_readsNamed_80 zc_i_0 ?_
  refine sm_istore (pc := 81) (n := 4) dX9_readsNamed_81 ?_
  exact sm_loop (fun r83 hr83 => slX9_readsNamed_83 P r83 hr83) _
noncomputable def bX9_readsNamed_64 {d : Nat} (P : zP d) (j80 : zK d) : zK d := (xald 0 (xgfR 25 7 (xild 3 (xald1 1 (xif0 t0eq (xald 0 (xpI 3 (xild 2 (xcV 25 3 0 0 f_X9_fails (xzret P))))) j80)))))
set_option maxRecDepth 100000 in
set_option maxHeartbeats 4000000 in
theorem sbX9_readsNamed_64 {d : Nat} [zGh] (P : zP d) (j80 : zK d) (hj80 : zSim X_X9_readsNamed 10 P 80 j80) : zSim X_X9_readsNamed 10 P 64 (bX9_readsNamed_64 P j80) := by
  unfold bX9_readsNamed_64
  refine sm_aload_n (pc := 64) (n := 0) dX9_readsNamed_64 rfl ?_
  refine gf_X9_22 (pc := 65) rfl dX9_readsNamed_65 ?_
  refine sm_iload_n (pc := 68) (n := 3) dX9_readsNamed_68 rfl ?_
  refine sm_baload (pc := 69) dX9_readsNamed_69 ?_
  refine sm_if_ne (pc := 70) (tgt := 80) dX9_readsNamed_70 (by decide) ?_ ?_
  · skip
    exact hj80
  · skip
    refine sm_aload_n (pc := 73) (n := 0) dX9_readsNamed_73 rfl ?_
    refine sm_iconst (pc := 74) dX9_readsNamed_74 zc_i_3 ?_
    refine sm_iload_n (pc := 75) (n := 2) dX9_readsNamed_75 rfl ?_
    refine sm_cV (pc := 76) (ci := 9) (n := 3) (mc := 0) (ms := 0) rfl m_X9_fails (cr_X9_377 (X := X_X9_readsNamed) (fr := 10) (frc := 1) (pc := 76) (mc := 0) (ms := 0) rfl (by decide) dX9_readsNamed_76) ?_
    exact sm_zreturn (pc := 79) dX9_readsNamed_79 rfl
noncomputable def bX9_readsNamed_40 {d : Nat} (P : zP d) : zK d := (xald 0 (xcV 25 1 0 0 f_X9_readsPart (xist 3 (xild 3 (xpI 4294967295 (xcmp Nat.beq (xpI 0 (xzret P)) (xild 1 (xpI 68 (xjoin (bX9_readsNamed_80 P) (fun j80 => (xjoin (bX9_readsNamed_64 P j80) (fun j64 => (xcmp Nat.beq j64 (xild 1 (xpI 80 (xcmp Nat.beq j64 j80))))))))))))))))
set_option maxRecDepth 100000 in
set_option maxHeartbeats 4000000 in
theorem sbX9_readsNamed_40 {d : Nat} [zGh] (P : zP d) : zSim X_X9_readsNamed 10 P 40 (bX9_readsNamed_40 P) := by
  unfold bX9_readsNamed_40
  refine sm_aload_n (pc := 40) (n := 0) dX9_readsNamed_40 rfl ?_
  refine sm_cV (pc := 41) (ci := 9) (n := 1) (mc := 0) (ms := 0) rfl m_X9_readsPart (cr_X9_393 (X := X_X9_readsNamed) (fr := 10) (frc := 3) (pc := 41) (mc := 0) (ms := 0) rfl (by decide) dX9_readsNamed_41) ?_
  refine sm_istore_n (pc := 44) (n := 3) dX9_readsNamed_44 rfl ?_
  refine sm_iload_n (pc := 45) (n := 3) dX9_readsNamed_45 rfl ?_
  refine sm_iconst (pc := 46) dX9_readsNamed_46 zc_i_m1 ?_
  refine sm_icmp_ne (pc := 47) (tgt := 52) dX9_readsNamed_47 (by decide) ?_ ?_
  · skip
    refine sm_iload_n (pc := 52) (n := 1) dX9_readsNamed_52 rfl ?_
    refine sm_bipush (pc := 53) dX9_readsNamed_53 zc_b_68 ?_
    refine sm_join (pc := 55) (pc' := 80) (sbX9_readsNamed_80 P) (fun j80 hj80 => ?_)
    refine sm_join (pc := 55) (pc' := 64) (sbX9_readsNamed_64 P j80 hj80) (fun j64 hj64 => ?_)
    refine sm_icmp_eq (pc := 55) (tgt := 64) dX9_readsNamed_55 (by decide) ?_ ?_
    · skip
      exact hj64
    · skip
      refine sm_iload_n (pc := 58) (n := 1) dX9_readsNamed_58 rfl ?_
      refine sm_bipush (pc := 59) dX9_readsNamed_59 zc_b_80 ?_
      refine sm_icmp_ne (pc := 61) (tgt := 80) dX9_readsNamed_61 (by decide) ?_ ?_
      · skip
        exact hj80
      · skip
        exact hj64
  · skip
    refine sm_iconst (pc := 50) dX9_readsNamed_50 zc_i_0 ?_
    exact sm_zreturn (pc := 51) dX9_readsNamed_51 rfl
noncomputable def b_X9_readsNamed {d : Nat} (P : zP d) : zK d := (xald 0 (xgfI 25 47 (xist 2 (xild 1 (xpI 91 (xjoin (bX9_readsNamed_40 P) (fun j40 => (xcmp Nat.beq j40 (xald 0 (xdup (xgfI 25 47 (xpI 1 (xbin zadd (xpfI 25 47 (xald 0 (xcV 25 1 0 0 f_X9_see (xpI 91 (xcmp Nat.beq j40 (xald 0 (xpI 1 (xald 0 (xgfI 25 47 (xcV 25 3 0 0 f_X9_fails (xzret P))))))))))))))))))))))))
set_option maxRecDepth 100000 in
set_option maxHeartbeats 4000000 in
theorem s_X9_readsNamed {d : Nat} [zGh] (P : zP d) : zSim X_X9_readsNamed 10 P 0 (b_X9_readsNamed P) := by
  unfold b_X9_readsNamed
  refine sm_aload_n (pc := 0) (n := 0) dX9_readsNamed_0 rfl ?_
  refine gf_X9_353 (pc := 1) rfl dX9_readsNamed_1 ?_
  refine sm_istore_n (pc := 4) (n := 2) dX9_readsNamed_4 rfl ?_
  refine sm_iload_n (pc := 5) (n := 1) dX9_readsNamed_5 rfl ?_
  refine sm_bipush (pc := 6) dX9_readsNamed_6 zc_b_91 ?_
  refine sm_join (pc := 8) (pc' := 40) (sbX9_readsNamed_40 P) (fun j40 hj40 => ?_)
  refine sm_icmp_eq (pc := 8) (tgt := 40) dX9_readsNamed_8 (by decide) ?_ ?_
  · skip
    exact hj40
  · skip
    refine sm_aload_n (pc := 11) (n := 0) dX9_readsNamed_11 rfl ?_
    refine sm_dup (pc := 12) dX9_readsNamed_12 ?_
    refine gf_X9_353 (pc := 13) rfl dX9_readsNamed_13 ?_
    refine sm_iconst (pc := 16) dX9_readsNamed_16 zc_i_1 ?_
    refine sm_iadd (pc := 17) dX9_readsNamed_17 ?_
    refine pf_X9_353 (pc := 18) rfl dX9_readsNamed_18 ?_
    refine sm_aload_n (pc := 21) (n := 0) dX9_readsNamed_21 rfl ?_
    refine sm_cV (pc := 22) (ci := 9) (n := 1) (mc := 0) (ms := 0) rfl m_X9_see (cr_X9_364 (X := X_X9_readsNamed) (fr := 10) (frc := 1) (pc := 22) (mc := 0) (ms := 0) rfl (by decide) dX9_readsNamed_22) ?_
    refine sm_bipush (pc := 25) dX9_readsNamed_25 zc_b_91 ?_
    refine sm_icmp_eq (pc := 27) (tgt := 40) dX9_readsNamed_27 (by decide) ?_ ?_
    · skip
      exact hj40
    · skip
      refine sm_aload_n (pc := 30) (n := 0) dX9_readsNamed_30 rfl ?_
      refine sm_iconst (pc := 31) dX9_readsNamed_31 zc_i_1 ?_
      refine sm_aload_n (pc := 32) (n := 0) dX9_readsNamed_32 rfl ?_
      refine gf_X9_353 (pc := 33) rfl dX9_readsNamed_33 ?_
      refine sm_cV (pc := 36) (ci := 9) (n := 3) (mc := 0) (ms := 0) rfl m_X9_fails (cr_X9_377 (X := X_X9_readsNamed) (fr := 10) (frc := 1) (pc := 36) (mc := 0) (ms := 0) rfl (by decide) dX9_readsNamed_36) ?_
      exact sm_zreturn (pc := 39) dX9_readsNamed_39 rfl
noncomputable def f_X9_readsNamed {d : Nat} : List zV → zH d → zP d → Bool := zfn 6 b_X9_readsNamed
theorem m_X9_readsNamed {d : Nat} : zMet (d := d) X_X9_readsNamed yX9_readsNamed 10 f_X9_readsNamed := zmet_mk (X := X_X9_readsNamed) (by decide) rfl rfl s_X9_readsNamed

abbrev X_X9_readsSlot : zM := (RX9, cX9_readsSlot, 2, (some .boolean), "readsSlot")
noncomputable def lX9_readsSlot_41 {d : Nat} (P : zP d) (r41 : zK d) : zK d := (xild 1 (xald 0 (xgfI 25 2 (xcmp tge (xpI 1 (xzret P)) (xald 0 (xgfR 25 58 (xild 1 (xald 0 (xgfR 25 43 (xpI 11 (xald 0 (xgfI 25 54 (xbin zmul (xild 1 (xbin zadd (xlal (xlas (xinc 1 1 r41))))))))))))))))))
set_option maxRecDepth 100000 in
set_option maxHeartbeats 4000000 in
theorem slX9_readsSlot_41 {d : Nat} [zGh] (P : zP d) (r41 : zK d) (hr41 : zSim X_X9_readsSlot 3 P 41 r41) : zSim X_X9_readsSlot 3 P 41 (lX9_readsSlot_41 P r41) := by
  unfold lX9_readsSlot_41
  refine sm_iload_n (pc := 41) (n := 1) dX9_readsSlot_41 rfl ?_
  refine sm_aload_n (pc := 42) (n := 0) dX9_readsSlot_42 rfl ?_
  refine gf_X9_153 (pc := 43) rfl dX9_readsSlot_43 ?_
  refine sm_icmp_ge (pc := 46) (tgt := 75) dX9_readsSlot_46 (by decide) ?_ ?_
  · skip
    refine sm_iconst (pc := 75) dX9_readsSlot_75 zc_i_1 ?_
    exact sm_zreturn (pc := 76) dX9_readsSlot_76 rfl
  · skip
    refine sm_aload_n (pc := 49) (n := 0) dX9_readsSlot_49 rfl ?_
    refine gf_X9_140 (pc := 50) rfl dX9_readsSlot_50 ?_
    refine sm_iload_n (pc := 53) (n := 1) dX9_readsSlot_53 rfl ?_
    refine sm_aload_n (pc := 54) (n := 0) dX9_readsSlot_54 rfl ?_
    refine gf_X9_115 (pc := 55) rfl dX9_readsSlot_55 ?_
    refine sm_bipush (pc := 58) dX9_readsSlot_58 zc_b_11 ?_
    refine sm_aload_n (pc := 60) (n := 0) dX9_readsSlot_60 rfl ?_
    refine gf_X9_370 (pc := 61) rfl dX9_readsSlot_61 ?_
    refine sm_imul (pc := 64) dX9_readsSlot_64 ?_
    refine sm_iload_n (pc := 65) (n := 1) dX9_readsSlot_65 rfl ?_
    refine sm_iadd (pc := 66) dX9_readsSlot_66 ?_
    refine sm_laload (pc := 67) dX9_readsSlot_67 ?_
    refine sm_lastore (pc := 68) dX9_readsSlot_68 ?_
    refine sm_iinc (pc := 69) (n := 1) dX9_readsSlot_69 zc_i_1 ?_
    refine sm_goto (pc := 72) (tgt := 41) dX9_readsSlot_72 (by decide) ?_
    exact hr41
noncomputable def b_X9_readsSlot {d : Nat} (P : zP d) : zK d := (xald 0 (xdup (xgfI 25 47 (xpI 1 (xbin zadd (xpfI 25 47 (xald 0 (xcV 25 1 0 0 f_X9_readsNumber (xif0 t0eq (xpI 0 (xzret P)) (xald 0 (xgfI 25 54 (xcS 1 0 0 f_X9_isSlot (xif0 t0eq (xald 0 (xpI 4 (xald 0 (xgfI 25 55 (xcV 25 3 0 0 f_X9_fails (xzret P)))))) (xpI 0 (xist 1 (xloop (fun r41 => (lX9_readsSlot_41 P r41)) 100000))))))))))))))))
set_option maxRecDepth 100000 in
set_option maxHeartbeats 4000000 in
theorem s_X9_readsSlot {d : Nat} [zGh] (P : zP d) : zSim X_X9_readsSlot 3 P 0 (b_X9_readsSlot P) := by
  unfold b_X9_readsSlot
  refine sm_aload_n (pc := 0) (n := 0) dX9_readsSlot_0 rfl ?_
  refine sm_dup (pc := 1) dX9_readsSlot_1 ?_
  refine gf_X9_353 (pc := 2) rfl dX9_readsSlot_2 ?_
  refine sm_iconst (pc := 5) dX9_readsSlot_5 zc_i_1 ?_
  refine sm_iadd (pc := 6) dX9_readsSlot_6 ?_
  refine pf_X9_353 (pc := 7) rfl dX9_readsSlot_7 ?_
  refine sm_aload_n (pc := 10) (n := 0) dX9_readsSlot_10 rfl ?_
  refine sm_cV (pc := 11) (ci := 9) (n := 1) (mc := 0) (ms := 0) rfl m_X9_readsNumber (cr_X9_383 (X := X_X9_readsSlot) (fr := 3) (frc := 2) (pc := 11) (mc := 0) (ms := 0) rfl (by decide) dX9_readsSlot_11) ?_
  refine sm_if_ne (pc := 14) (tgt := 19) dX9_readsSlot_14 (by decide) ?_ ?_
  · skip
    refine sm_aload_n (pc := 19) (n := 0) dX9_readsSlot_19 rfl ?_
    refine gf_X9_370 (pc := 20) rfl dX9_readsSlot_20 ?_
    refine sm_cS (pc := 23) (n := 1) (mc := 0) (ms := 0) m_X9_isSlot (cr_X9_319 (X := X_X9_readsSlot) (fr := 3) (frc := 2) (pc := 23) (mc := 0) (ms := 0) rfl (by decide) dX9_readsSlot_23) ?_
    refine sm_if_ne (pc := 26) (tgt := 39) dX9_readsSlot_26 (by decide) ?_ ?_
    · skip
      refine sm_iconst (pc := 39) dX9_readsSlot_39 zc_i_0 ?_
      refine sm_istore_n (pc := 40) (n := 1) dX9_readsSlot_40 rfl ?_
      exact sm_loop (fun r41 hr41 => slX9_readsSlot_41 P r41 hr41) _
    · skip
      refine sm_aload_n (pc := 29) (n := 0) dX9_readsSlot_29 rfl ?_
      refine sm_iconst (pc := 30) dX9_readsSlot_30 zc_i_4 ?_
      refine sm_aload_n (pc := 31) (n := 0) dX9_readsSlot_31 rfl ?_
      refine gf_X9_367 (pc := 32) rfl dX9_readsSlot_32 ?_
      refine sm_cV (pc := 35) (ci := 9) (n := 3) (mc := 0) (ms := 0) rfl m_X9_fails (cr_X9_377 (X := X_X9_readsSlot) (fr := 3) (frc := 1) (pc := 35) (mc := 0) (ms := 0) rfl (by decide) dX9_readsSlot_35) ?_
      exact sm_zreturn (pc := 38) dX9_readsSlot_38 rfl
  · skip
    refine sm_iconst (pc := 17) dX9_readsSlot_17 zc_i_0 ?_
    exact sm_zreturn (pc := 18) dX9_readsSlot_18 rfl
noncomputable def f_X9_readsSlot {d : Nat} : List zV → zH d → zP d → Bool := zfn 2 b_X9_readsSlot
theorem m_X9_readsSlot {d : Nat} : zMet (d := d) X_X9_readsSlot yX9_readsSlot 3 f_X9_readsSlot := zmet_mk (X := X_X9_readsSlot) (by decide) rfl rfl s_X9_readsSlot

abbrev X_X9_areNear : zM := (RX9, cX9_areNear, 3, (some .boolean), "areNear")
noncomputable def lX9_areNear_2 {d : Nat} (P : zP d) (r2 : zK d) : zK d := (xild 2 (xald 0 (xgfI 25 2 (xcmp tge (xpI 1 (xzret P)) (xald 1 (xpI 11 (xald 0 (xgfI 25 59 (xbin zmul (xild 2 (xbin zadd (xlal (xpL 18446743073709551616 (xpL 1000000000000 (xcS 3 0 0 f_X9_isIn (xif0 t0eq (xpI 0 (xzret P)) (xinc 2 1 r2)))))))))))))))))
set_option maxRecDepth 100000 in
set_option maxHeartbeats 4000000 in
theorem slX9_areNear_2 {d : Nat} [zGh] (P : zP d) (r2 : zK d) (hr2 : zSim X_X9_areNear 2 P 2 r2) : zSim X_X9_areNear 2 P 2 (lX9_areNear_2 P r2) := by
  unfold lX9_areNear_2
  refine sm_iload_n (pc := 2) (n := 2) dX9_areNear_2 rfl ?_
  refine sm_aload_n (pc := 3) (n := 0) dX9_areNear_3 rfl ?_
  refine gf_X9_153 (pc := 4) rfl dX9_areNear_4 ?_
  refine sm_icmp_ge (pc := 7) (tgt := 41) dX9_areNear_7 (by decide) ?_ ?_
  · skip
    refine sm_iconst (pc := 41) dX9_areNear_41 zc_i_1 ?_
    exact sm_zreturn (pc := 42) dX9_areNear_42 rfl
  · skip
    refine sm_aload_n (pc := 10) (n := 1) dX9_areNear_10 rfl ?_
    refine sm_bipush (pc := 11) dX9_areNear_11 zc_b_11 ?_
    refine sm_aload_n (pc := 13) (n := 0) dX9_areNear_13 rfl ?_
    refine gf_X9_396 (pc := 14) rfl dX9_areNear_14 ?_
    refine sm_imul (pc := 17) dX9_areNear_17 ?_
    refine sm_iload_n (pc := 18) (n := 2) dX9_areNear_18 rfl ?_
    refine sm_iadd (pc := 19) dX9_areNear_19 ?_
    refine sm_laload (pc := 20) dX9_areNear_20 ?_
    refine sm_ldc2 (pc := 21) dX9_areNear_21 wd_1422 zc_cl_m1000000000000 ?_
    refine sm_ldc2 (pc := 24) dX9_areNear_24 wd_1417 zc_cl_1000000000000 ?_
    refine sm_cS (pc := 27) (n := 3) (mc := 0) (ms := 0) m_X9_isIn (cr_X9_283 (X := X_X9_areNear) (fr := 2) (frc := 1) (pc := 27) (mc := 0) (ms := 0) rfl (by decide) dX9_areNear_27) ?_
    refine sm_if_ne (pc := 30) (tgt := 35) dX9_areNear_30 (by decide) ?_ ?_
    · skip
      refine sm_iinc (pc := 35) (n := 2) dX9_areNear_35 zc_i_1 ?_
      refine sm_goto (pc := 38) (tgt := 2) dX9_areNear_38 (by decide) ?_
      exact hr2
    · skip
      refine sm_iconst (pc := 33) dX9_areNear_33 zc_i_0 ?_
      exact sm_zreturn (pc := 34) dX9_areNear_34 rfl
noncomputable def b_X9_areNear {d : Nat} (P : zP d) : zK d := (xpI 0 (xist 2 (xloop (fun r2 => (lX9_areNear_2 P r2)) 100000)))
set_option maxRecDepth 100000 in
set_option maxHeartbeats 4000000 in
theorem s_X9_areNear {d : Nat} [zGh] (P : zP d) : zSim X_X9_areNear 2 P 0 (b_X9_areNear P) := by
  unfold b_X9_areNear
  refine sm_iconst (pc := 0) dX9_areNear_0 zc_i_0 ?_
  refine sm_istore_n (pc := 1) (n := 2) dX9_areNear_1 rfl ?_
  exact sm_loop (fun r2 hr2 => slX9_areNear_2 P r2 hr2) _
noncomputable def f_X9_areNear {d : Nat} : List zV → zH d → zP d → Bool := zfn 3 b_X9_areNear
theorem m_X9_areNear {d : Nat} : zMet (d := d) X_X9_areNear yX9_areNear 2 f_X9_areNear := zmet_mk (X := X_X9_areNear) (by decide) rfl rfl s_X9_areNear

abbrev X_X9_readsSum : zM := (RX9, cX9_readsSum, 4, (some .boolean), "readsSum")

abbrev X_X9_readsInner : zM := (RX9, cX9_readsInner, 2, (some .boolean), "readsInner")
noncomputable def lX9_readsInner_78 {d : Nat} (self : List zV → zH d → zP d → Bool) (P : zP d) (r78 : zK d) : zK d := (xild 1 (xald 0 (xgfI 25 2 (xcmp tge (xald 0 (xdup (xgfI 25 59 (xpI 1 (xbin zsub (xpfI 25 59 (xpI 1 (xzret P)))))))) (xald 0 (xgfR 25 58 (xild 1 (xald 0 (xgfR 25 56 (xpI 11 (xald 0 (xgfI 25 59 (xbin zmul (xild 1 (xbin zadd (xlal (xlas (xinc 1 1 r78))))))))))))))))))
set_option maxRecDepth 100000 in
set_option maxHeartbeats 4000000 in
theorem slX9_readsInner_78 {d : Nat} [zGh] (n : Nat) (self : List zV → zH d → zP d → Bool) (hself : zMet X_X9_readsSum yX9_readsSum (11 + 4 * n) self) (P : zP d) (r78 : zK d) (hr78 : zSim X_X9_readsInner (11 + 4 * n + 1) P 78 r78) : zSim X_X9_readsInner (11 + 4 * n + 1) P 78 (lX9_readsInner_78 self P r78) := by
  unfold lX9_readsInner_78
  refine sm_iload_n (pc := 78) (n := 1) dX9_readsInner_78 rfl ?_
  refine sm_aload_n (pc := 79) (n := 0) dX9_readsInner_79 rfl ?_
  refine gf_X9_153 (pc := 80) rfl dX9_readsInner_80 ?_
  refine sm_icmp_ge (pc := 83) (tgt := 112) dX9_readsInner_83 (by decide) ?_ ?_
  · skip
    refine sm_aload_n (pc := 112) (n := 0) dX9_readsInner_112 rfl ?_
    refine sm_dup (pc := 113) dX9_readsInner_113 ?_
    refine gf_X9_396 (pc := 114) rfl dX9_readsInner_114 ?_
    refine sm_iconst (pc := 117) dX9_readsInner_117 zc_i_1 ?_
    refine sm_isub (pc := 118) dX9_readsInner_118 ?_
    refine pf_X9_396 (pc := 119) rfl dX9_readsInner_119 ?_
    refine sm_iconst (pc := 122) dX9_readsInner_122 zc_i_1 ?_
    exact sm_zreturn (pc := 123) dX9_readsInner_123 rfl
  · skip
    refine sm_aload_n (pc := 86) (n := 0) dX9_readsInner_86 rfl ?_
    refine gf_X9_140 (pc := 87) rfl dX9_readsInner_87 ?_
    refine sm_iload_n (pc := 90) (n := 1) dX9_readsInner_90 rfl ?_
    refine sm_aload_n (pc := 91) (n := 0) dX9_readsInner_91 rfl ?_
    refine gf_X9_134 (pc := 92) rfl dX9_readsInner_92 ?_
    refine sm_bipush (pc := 95) dX9_readsInner_95 zc_b_11 ?_
    refine sm_aload_n (pc := 97) (n := 0) dX9_readsInner_97 rfl ?_
    refine gf_X9_396 (pc := 98) rfl dX9_readsInner_98 ?_
    refine sm_imul (pc := 101) dX9_readsInner_101 ?_
    refine sm_iload_n (pc := 102) (n := 1) dX9_readsInner_102 rfl ?_
    refine sm_iadd (pc := 103) dX9_readsInner_103 ?_
    refine sm_laload (pc := 104) dX9_readsInner_104 ?_
    refine sm_lastore (pc := 105) dX9_readsInner_105 ?_
    refine sm_iinc (pc := 106) (n := 1) dX9_readsInner_106 zc_i_1 ?_
    refine sm_goto (pc := 109) (tgt := 78) dX9_readsInner_109 (by decide) ?_
    exact hr78
noncomputable def cX9_readsInner_67 {d : Nat} (self : List zV → zH d → zP d → Bool) (P : zP d) : zK d := (xdup (xgfI 25 47 (xpI 1 (xbin zadd (xpfI 25 47 (xpI 0 (xist 1 (xloop (fun r78 => (lX9_readsInner_78 self P r78)) 100000))))))))
set_option maxRecDepth 100000 in
set_option maxHeartbeats 4000000 in
theorem scX9_readsInner_67 {d : Nat} [zGh] (n : Nat) (self : List zV → zH d → zP d → Bool) (hself : zMet X_X9_readsSum yX9_readsSum (11 + 4 * n) self) (P : zP d) : zSim X_X9_readsInner (11 + 4 * n + 1) P 67 (cX9_readsInner_67 self P) := by
  unfold cX9_readsInner_67
  refine sm_dup (pc := 67) dX9_readsInner_67 ?_
  refine gf_X9_353 (pc := 68) rfl dX9_readsInner_68 ?_
  refine sm_iconst (pc := 71) dX9_readsInner_71 zc_i_1 ?_
  refine sm_iadd (pc := 72) dX9_readsInner_72 ?_
  refine pf_X9_353 (pc := 73) rfl dX9_readsInner_73 ?_
  refine sm_iconst (pc := 76) dX9_readsInner_76 zc_i_0 ?_
  refine sm_istore_n (pc := 77) (n := 1) dX9_readsInner_77 rfl ?_
  exact sm_loop (fun r78 hr78 => slX9_readsInner_78 n self hself P r78 hr78) _
noncomputable def cX9_readsInner_57 {d : Nat} (self : List zV → zH d → zP d → Bool) (P : zP d) : zK d := (xpI 1 (xald 0 (xgfI 25 47 (xcV 25 3 0 0 f_X9_fails (xzret P)))))
set_option maxRecDepth 100000 in
set_option maxHeartbeats 4000000 in
theorem scX9_readsInner_57 {d : Nat} [zGh] (n : Nat) (self : List zV → zH d → zP d → Bool) (hself : zMet X_X9_readsSum yX9_readsSum (11 + 4 * n) self) (P : zP d) : zSim X_X9_readsInner (11 + 4 * n + 1) P 57 (cX9_readsInner_57 self P) := by
  unfold cX9_readsInner_57
  refine sm_iconst (pc := 57) dX9_readsInner_57 zc_i_1 ?_
  refine sm_aload_n (pc := 58) (n := 0) dX9_readsInner_58 rfl ?_
  refine gf_X9_353 (pc := 59) rfl dX9_readsInner_59 ?_
  refine sm_cV (pc := 62) (ci := 9) (n := 3) (mc := 0) (ms := 0) rfl m_X9_fails (cr_X9_377 (X := X_X9_readsInner) (fr := 11 + 4 * n + 1) (frc := 1) (pc := 62) (mc := 0) (ms := 0) rfl (by omega) dX9_readsInner_62) ?_
  exact sm_zreturn (pc := 65) dX9_readsInner_65 rfl
noncomputable def b_X9_readsInner {d : Nat} (self : List zV → zH d → zP d → Bool) (P : zP d) : zK d := (xald 0 (xgfI 25 59 (xpI 4 (xcmp Nat.beq (xald 0 (xpI 5 (xald 0 (xgfI 25 47 (xcV 25 3 0 0 f_X9_fails (xzret P)))))) (xald 0 (xdup (xgfI 25 47 (xpI 1 (xbin zadd (xpfI 25 47 (xald 0 (xdup (xgfI 25 59 (xpI 1 (xbin zadd (xpfI 25 59 (xald 0 (xcV 25 1 0 0 self (xif0 t0eq (xpI 0 (xzret P)) (xald 0 (xcV 25 1 0 0 f_X9_see (xpI 41 (xcmp Nat.beq (xald 0 (cX9_readsInner_67 self P)) (xald 0 (cX9_readsInner_57 self P)))))))))))))))))))))))))
set_option maxRecDepth 100000 in
set_option maxHeartbeats 4000000 in
theorem s_X9_readsInner {d : Nat} [zGh] (n : Nat) (self : List zV → zH d → zP d → Bool) (hself : zMet X_X9_readsSum yX9_readsSum (11 + 4 * n) self) (P : zP d) : zSim X_X9_readsInner (11 + 4 * n + 1) P 0 (b_X9_readsInner self P) := by
  unfold b_X9_readsInner
  refine sm_aload_n (pc := 0) (n := 0) dX9_readsInner_0 rfl ?_
  refine gf_X9_396 (pc := 1) rfl dX9_readsInner_1 ?_
  refine sm_iconst (pc := 4) dX9_readsInner_4 zc_i_4 ?_
  refine sm_icmp_ne (pc := 5) (tgt := 18) dX9_readsInner_5 (by decide) ?_ ?_
  · skip
    refine sm_aload_n (pc := 18) (n := 0) dX9_readsInner_18 rfl ?_
    refine sm_dup (pc := 19) dX9_readsInner_19 ?_
    refine gf_X9_353 (pc := 20) rfl dX9_readsInner_20 ?_
    refine sm_iconst (pc := 23) dX9_readsInner_23 zc_i_1 ?_
    refine sm_iadd (pc := 24) dX9_readsInner_24 ?_
    refine pf_X9_353 (pc := 25) rfl dX9_readsInner_25 ?_
    refine sm_aload_n (pc := 28) (n := 0) dX9_readsInner_28 rfl ?_
    refine sm_dup (pc := 29) dX9_readsInner_29 ?_
    refine gf_X9_396 (pc := 30) rfl dX9_readsInner_30 ?_
    refine sm_iconst (pc := 33) dX9_readsInner_33 zc_i_1 ?_
    refine sm_iadd (pc := 34) dX9_readsInner_34 ?_
    refine pf_X9_396 (pc := 35) rfl dX9_readsInner_35 ?_
    refine sm_aload_n (pc := 38) (n := 0) dX9_readsInner_38 rfl ?_
    refine sm_cV (pc := 39) (ci := 9) (n := 1) (mc := 0) (ms := 0) rfl hself (cr_X9_399 (X := X_X9_readsInner) (fr := 11 + 4 * n + 1) (frc := 11 + 4 * n) (pc := 39) (mc := 0) (ms := 0) rfl (by omega) dX9_readsInner_39) ?_
    refine sm_if_ne (pc := 42) (tgt := 47) dX9_readsInner_42 (by decide) ?_ ?_
    · skip
      refine sm_aload_n (pc := 47) (n := 0) dX9_readsInner_47 rfl ?_
      refine sm_cV (pc := 48) (ci := 9) (n := 1) (mc := 0) (ms := 0) rfl m_X9_see (cr_X9_364 (X := X_X9_readsInner) (fr := 11 + 4 * n + 1) (frc := 1) (pc := 48) (mc := 0) (ms := 0) rfl (by omega) dX9_readsInner_48) ?_
      refine sm_bipush (pc := 51) dX9_readsInner_51 zc_b_41 ?_
      refine sm_icmp_eq (pc := 53) (tgt := 66) dX9_readsInner_53 (by decide) ?_ ?_
      · skip
        refine sm_aload_n (pc := 66) (n := 0) dX9_readsInner_66 rfl ?_
        exact scX9_readsInner_67 n self hself P
      · skip
        refine sm_aload_n (pc := 56) (n := 0) dX9_readsInner_56 rfl ?_
        exact scX9_readsInner_57 n self hself P
    · skip
      refine sm_iconst (pc := 45) dX9_readsInner_45 zc_i_0 ?_
      exact sm_zreturn (pc := 46) dX9_readsInner_46 rfl
  · skip
    refine sm_aload_n (pc := 8) (n := 0) dX9_readsInner_8 rfl ?_
    refine sm_iconst (pc := 9) dX9_readsInner_9 zc_i_5 ?_
    refine sm_aload_n (pc := 10) (n := 0) dX9_readsInner_10 rfl ?_
    refine gf_X9_353 (pc := 11) rfl dX9_readsInner_11 ?_
    refine sm_cV (pc := 14) (ci := 9) (n := 3) (mc := 0) (ms := 0) rfl m_X9_fails (cr_X9_377 (X := X_X9_readsInner) (fr := 11 + 4 * n + 1) (frc := 1) (pc := 14) (mc := 0) (ms := 0) rfl (by omega) dX9_readsInner_14) ?_
    exact sm_zreturn (pc := 17) dX9_readsInner_17 rfl
noncomputable def f_X9_readsInner {d : Nat} (self : List zV → zH d → zP d → Bool) : List zV → zH d → zP d → Bool := zfn 2 (b_X9_readsInner self)
theorem m_X9_readsInner {d : Nat} (n : Nat) (self : List zV → zH d → zP d → Bool) (hself : zMet X_X9_readsSum yX9_readsSum (11 + 4 * n) self) : zMet (d := d) X_X9_readsInner yX9_readsInner (11 + 4 * n + 1) (f_X9_readsInner self) := zmet_mk (X := X_X9_readsInner) (by decide) rfl rfl (s_X9_readsInner n self hself)

abbrev X_X9_readsFactor : zM := (RX9, cX9_readsFactor, 4, (some .boolean), "readsFactor")
noncomputable def bX9_readsFactor_166 {d : Nat} (self : List zV → zH d → zP d → Bool) (P : zP d) : zK d := (xild 2 (xzret P))
set_option maxRecDepth 100000 in
set_option maxHeartbeats 4000000 in
theorem sbX9_readsFactor_166 {d : Nat} [zGh] (n : Nat) (self : List zV → zH d → zP d → Bool) (hself : zMet X_X9_readsSum yX9_readsSum (11 + 4 * n) self) (P : zP d) : zSim X_X9_readsFactor (11 + 4 * n + 2) P 166 (bX9_readsFactor_166 self P) := by
  unfold bX9_readsFactor_166
  refine sm_iload_n (pc := 166) (n := 2) dX9_readsFactor_166 rfl ?_
  exact sm_zreturn (pc := 167) dX9_readsFactor_167 rfl
noncomputable def bX9_readsFactor_152 {d : Nat} (self : List zV → zH d → zP d → Bool) (P : zP d) : zK d := (xild 2 (xjoin (bX9_readsFactor_166 self P) (fun j166 => (xif0 t0eq j166 (xald 0 (xdup (xgfI 25 53 (xpI 1 (xbin zsub (xpfI 25 53 j166))))))))))
set_option maxRecDepth 100000 in
set_option maxHeartbeats 4000000 in
theorem sbX9_readsFactor_152 {d : Nat} [zGh] (n : Nat) (self : List zV → zH d → zP d → Bool) (hself : zMet X_X9_readsSum yX9_readsSum (11 + 4 * n) self) (P : zP d) : zSim X_X9_readsFactor (11 + 4 * n + 2) P 152 (bX9_readsFactor_152 self P) := by
  unfold bX9_readsFactor_152
  refine sm_iload_n (pc := 152) (n := 2) dX9_readsFactor_152 rfl ?_
  refine sm_join (pc := 153) (pc' := 166) (sbX9_readsFactor_166 n self hself P) (fun j166 hj166 => ?_)
  refine sm_if_eq (pc := 153) (tgt := 166) dX9_readsFactor_153 (by decide) ?_ ?_
  · skip
    exact hj166
  · skip
    refine sm_aload_n (pc := 156) (n := 0) dX9_readsFactor_156 rfl ?_
    refine sm_dup (pc := 157) dX9_readsFactor_157 ?_
    refine gf_X9_359 (pc := 158) rfl dX9_readsFactor_158 ?_
    refine sm_iconst (pc := 161) dX9_readsFactor_161 zc_i_1 ?_
    refine sm_isub (pc := 162) dX9_readsFactor_162 ?_
    refine pf_X9_359 (pc := 163) rfl dX9_readsFactor_163 ?_
    exact hj166
noncomputable def bX9_readsFactor_47 {d : Nat} (self : List zV → zH d → zP d → Bool) (P : zP d) (j152 : zK d) : zK d := (xald 0 (xild 1 (xcV 25 2 0 0 f_X9_readsNamed (xist 2 j152))))
set_option maxRecDepth 100000 in
set_option maxHeartbeats 4000000 in
theorem sbX9_readsFactor_47 {d : Nat} [zGh] (n : Nat) (self : List zV → zH d → zP d → Bool) (hself : zMet X_X9_readsSum yX9_readsSum (11 + 4 * n) self) (P : zP d) (j152 : zK d) (hj152 : zSim X_X9_readsFactor (11 + 4 * n + 2) P 152 j152) : zSim X_X9_readsFactor (11 + 4 * n + 2) P 47 (bX9_readsFactor_47 self P j152) := by
  unfold bX9_readsFactor_47
  refine sm_aload_n (pc := 47) (n := 0) dX9_readsFactor_47 rfl ?_
  refine sm_iload_n (pc := 48) (n := 1) dX9_readsFactor_48 rfl ?_
  refine sm_cV (pc := 49) (ci := 9) (n := 2) (mc := 0) (ms := 0) rfl m_X9_readsNamed (cr_X9_408 (X := X_X9_readsFactor) (fr := 11 + 4 * n + 2) (frc := 10) (pc := 49) (mc := 0) (ms := 0) rfl (by omega) dX9_readsFactor_49) ?_
  refine sm_istore_n (pc := 52) (n := 2) dX9_readsFactor_52 rfl ?_
  refine sm_goto (pc := 53) (tgt := 152) dX9_readsFactor_53 (by decide) ?_
  exact hj152
noncomputable def lX9_readsFactor_127 {d : Nat} (self : List zV → zH d → zP d → Bool) (P : zP d) (j152 : zK d) (r127 : zK d) : zK d := (xild 3 (xald 0 (xgfI 25 2 (xcmp tge j152 (xald 0 (xgfR 25 58 (xild 3 (xald 0 (xgfI 25 54 (xi2l (xlas (xinc 3 1 r127))))))))))))
set_option maxRecDepth 100000 in
set_option maxHeartbeats 4000000 in
theorem slX9_readsFactor_127 {d : Nat} [zGh] (n : Nat) (self : List zV → zH d → zP d → Bool) (hself : zMet X_X9_readsSum yX9_readsSum (11 + 4 * n) self) (P : zP d) (j152 : zK d) (r127 : zK d) (hj152 : zSim X_X9_readsFactor (11 + 4 * n + 2) P 152 j152) (hr127 : zSim X_X9_readsFactor (11 + 4 * n + 2) P 127 r127) : zSim X_X9_readsFactor (11 + 4 * n + 2) P 127 (lX9_readsFactor_127 self P j152 r127) := by
  unfold lX9_readsFactor_127
  refine sm_iload_n (pc := 127) (n := 3) dX9_readsFactor_127 rfl ?_
  refine sm_aload_n (pc := 128) (n := 0) dX9_readsFactor_128 rfl ?_
  refine gf_X9_153 (pc := 129) rfl dX9_readsFactor_129 ?_
  refine sm_icmp_ge (pc := 132) (tgt := 152) dX9_readsFactor_132 (by decide) ?_ ?_
  · skip
    exact hj152
  · skip
    refine sm_aload_n (pc := 135) (n := 0) dX9_readsFactor_135 rfl ?_
    refine gf_X9_140 (pc := 136) rfl dX9_readsFactor_136 ?_
    refine sm_iload_n (pc := 139) (n := 3) dX9_readsFactor_139 rfl ?_
    refine sm_aload_n (pc := 140) (n := 0) dX9_readsFactor_140 rfl ?_
    refine gf_X9_370 (pc := 141) rfl dX9_readsFactor_141 ?_
    refine sm_i2l (pc := 144) dX9_readsFactor_144 ?_
    refine sm_lastore (pc := 145) dX9_readsFactor_145 ?_
    refine sm_iinc (pc := 146) (n := 3) dX9_readsFactor_146 zc_i_1 ?_
    refine sm_goto (pc := 149) (tgt := 127) dX9_readsFactor_149 (by decide) ?_
    exact hr127
noncomputable def lX9_readsFactor_88 {d : Nat} (self : List zV → zH d → zP d → Bool) (P : zP d) (j152 : zK d) (r88 : zK d) : zK d := (xild 3 (xald 0 (xgfI 25 2 (xcmp tge (xpI 1 (xist 2 j152)) (xald 0 (xgfR 25 58 (xild 3 (xald 0 (xgfR 25 9 (xild 3 (xald1 0 (xi2l (xlas (xinc 3 1 r88))))))))))))))
set_option maxRecDepth 100000 in
set_option maxHeartbeats 4000000 in
theorem slX9_readsFactor_88 {d : Nat} [zGh] (n : Nat) (self : List zV → zH d → zP d → Bool) (hself : zMet X_X9_readsSum yX9_readsSum (11 + 4 * n) self) (P : zP d) (j152 : zK d) (r88 : zK d) (hj152 : zSim X_X9_readsFactor (11 + 4 * n + 2) P 152 j152) (hr88 : zSim X_X9_readsFactor (11 + 4 * n + 2) P 88 r88) : zSim X_X9_readsFactor (11 + 4 * n + 2) P 88 (lX9_readsFactor_88 self P j152 r88) := by
  unfold lX9_readsFactor_88
  refine sm_iload_n (pc := 88) (n := 3) dX9_readsFactor_88 rfl ?_
  refine sm_aload_n (pc := 89) (n := 0) dX9_readsFactor_89 rfl ?_
  refine gf_X9_153 (pc := 90) rfl dX9_readsFactor_90 ?_
  refine sm_icmp_ge (pc := 93) (tgt := 115) dX9_readsFactor_93 (by decide) ?_ ?_
  · skip
    refine sm_iconst (pc := 115) dX9_readsFactor_115 zc_i_1 ?_
    refine sm_istore_n (pc := 116) (n := 2) dX9_readsFactor_116 rfl ?_
    refine sm_goto (pc := 117) (tgt := 152) dX9_readsFactor_117 (by decide) ?_
    exact hj152
  · skip
    refine sm_aload_n (pc := 96) (n := 0) dX9_readsFactor_96 rfl ?_
    refine gf_X9_140 (pc := 97) rfl dX9_readsFactor_97 ?_
    refine sm_iload_n (pc := 100) (n := 3) dX9_readsFactor_100 rfl ?_
    refine sm_aload_n (pc := 101) (n := 0) dX9_readsFactor_101 rfl ?_
    refine gf_X9_29 (pc := 102) rfl dX9_readsFactor_102 ?_
    refine sm_iload_n (pc := 105) (n := 3) dX9_readsFactor_105 rfl ?_
    refine sm_iaload (pc := 106) dX9_readsFactor_106 ?_
    refine sm_i2l (pc := 107) dX9_readsFactor_107 ?_
    refine sm_lastore (pc := 108) dX9_readsFactor_108 ?_
    refine sm_iinc (pc := 109) (n := 3) dX9_readsFactor_109 zc_i_1 ?_
    refine sm_goto (pc := 112) (tgt := 88) dX9_readsFactor_112 (by decide) ?_
    exact hr88
noncomputable def cX9_readsFactor_71 {d : Nat} (self : List zV → zH d → zP d → Bool) (P : zP d) (j152 : zK d) : zK d := (xpI 83 (xcmp Nat.beq (xald 0 (xdup (xgfI 25 47 (xpI 1 (xbin zadd (xpfI 25 47 (xpI 0 (xist 3 (xloop (fun r88 => (lX9_readsFactor_88 self P j152 r88)) 100000))))))))) (xald 0 (xcV 25 1 0 0 f_X9_readsNumber (xist 2 (xpI 0 (xist 3 (xloop (fun r127 => (lX9_readsFactor_127 self P j152 r127)) 100000))))))))
set_option maxRecDepth 100000 in
set_option maxHeartbeats 4000000 in
theorem scX9_readsFactor_71 {d : Nat} [zGh] (n : Nat) (self : List zV → zH d → zP d → Bool) (hself : zMet X_X9_readsSum yX9_readsSum (11 + 4 * n) self) (P : zP d) (j152 : zK d) (hj152 : zSim X_X9_readsFactor (11 + 4 * n + 2) P 152 j152) : zSim X_X9_readsFactor (11 + 4 * n + 2) P 71 (cX9_readsFactor_71 self P j152) := by
  unfold cX9_readsFactor_71
  refine sm_bipush (pc := 71) dX9_readsFactor_71 zc_b_83 ?_
  refine sm_icmp_ne (pc := 73) (tgt := 120) dX9_readsFactor_73 (by decide) ?_ ?_
  · skip
    refine sm_aload_n (pc := 120) (n := 0) dX9_readsFactor_120 rfl ?_
    refine sm_cV (pc := 121) (ci := 9) (n := 1) (mc := 0) (ms := 0) rfl m_X9_readsNumber (cr_X9_383 (X := X_X9_readsFactor) (fr := 11 + 4 * n + 2) (frc := 2) (pc := 121) (mc := 0) (ms := 0) rfl (by omega) dX9_readsFactor_121) ?_
    refine sm_istore_n (pc := 124) (n := 2) dX9_readsFactor_124 rfl ?_
    refine sm_iconst (pc := 125) dX9_readsFactor_125 zc_i_0 ?_
    refine sm_istore_n (pc := 126) (n := 3) dX9_readsFactor_126 rfl ?_
    exact sm_loop (fun r127 hr127 => slX9_readsFactor_127 n self hself P j152 r127 hj152 hr127) _
  · skip
    refine sm_aload_n (pc := 76) (n := 0) dX9_readsFactor_76 rfl ?_
    refine sm_dup (pc := 77) dX9_readsFactor_77 ?_
    refine gf_X9_353 (pc := 78) rfl dX9_readsFactor_78 ?_
    refine sm_iconst (pc := 81) dX9_readsFactor_81 zc_i_1 ?_
    refine sm_iadd (pc := 82) dX9_readsFactor_82 ?_
    refine pf_X9_353 (pc := 83) rfl dX9_readsFactor_83 ?_
    refine sm_iconst (pc := 86) dX9_readsFactor_86 zc_i_0 ?_
    refine sm_istore_n (pc := 87) (n := 3) dX9_readsFactor_87 rfl ?_
    exact sm_loop (fun r88 hr88 => slX9_readsFactor_88 n self hself P j152 r88 hj152 hr88) _
noncomputable def cX9_readsFactor_63 {d : Nat} (self : List zV → zH d → zP d → Bool) (P : zP d) (j152 : zK d) : zK d := (xcV 25 1 0 0 f_X9_readsSlot (xist 2 j152))
set_option maxRecDepth 100000 in
set_option maxHeartbeats 4000000 in
theorem scX9_readsFactor_63 {d : Nat} [zGh] (n : Nat) (self : List zV → zH d → zP d → Bool) (hself : zMet X_X9_readsSum yX9_readsSum (11 + 4 * n) self) (P : zP d) (j152 : zK d) (hj152 : zSim X_X9_readsFactor (11 + 4 * n + 2) P 152 j152) : zSim X_X9_readsFactor (11 + 4 * n + 2) P 63 (cX9_readsFactor_63 self P j152) := by
  unfold cX9_readsFactor_63
  refine sm_cV (pc := 63) (ci := 9) (n := 1) (mc := 0) (ms := 0) rfl m_X9_readsSlot (cr_X9_411 (X := X_X9_readsFactor) (fr := 11 + 4 * n + 2) (frc := 3) (pc := 63) (mc := 0) (ms := 0) rfl (by omega) dX9_readsFactor_63) ?_
  refine sm_istore_n (pc := 66) (n := 2) dX9_readsFactor_66 rfl ?_
  refine sm_goto (pc := 67) (tgt := 152) dX9_readsFactor_67 (by decide) ?_
  exact hj152
noncomputable def b_X9_readsFactor {d : Nat} (self : List zV → zH d → zP d → Bool) (P : zP d) : zK d := (xald 0 (xcV 25 1 0 0 f_X9_begin (xald 0 (xcV 25 1 0 0 f_X9_see (xist 1 (xild 1 (xpI 40 (xjoin (bX9_readsFactor_152 self P) (fun j152 => (xcmp Nat.beq (xald 0 (xcV 25 1 0 0 (f_X9_readsInner self) (xist 2 j152))) (xild 1 (xpI 91 (xjoin (bX9_readsFactor_47 self P j152) (fun j47 => (xcmp Nat.beq j47 (xild 1 (xpI 68 (xcmp Nat.beq j47 (xild 1 (xpI 80 (xcmp Nat.beq j47 (xild 1 (xpI 77 (xcmp Nat.beq j47 (xild 1 (xpI 88 (xcmp Nat.beq (xald 0 (cX9_readsFactor_63 self P j152)) (xild 1 (cX9_readsFactor_71 self P j152)))))))))))))))))))))))))))))
set_option maxRecDepth 100000 in
set_option maxHeartbeats 4000000 in
theorem s_X9_readsFactor {d : Nat} [zGh] (n : Nat) (self : List zV → zH d → zP d → Bool) (hself : zMet X_X9_readsSum yX9_readsSum (11 + 4 * n) self) (P : zP d) : zSim X_X9_readsFactor (11 + 4 * n + 2) P 0 (b_X9_readsFactor self P) := by
  unfold b_X9_readsFactor
  refine sm_aload_n (pc := 0) (n := 0) dX9_readsFactor_0 rfl ?_
  refine sm_cV (pc := 1) (ci := 9) (n := 1) (mc := 0) (ms := 0) rfl m_X9_begin (cr_X9_402 (X := X_X9_readsFactor) (fr := 11 + 4 * n + 2) (frc := 2) (pc := 1) (mc := 0) (ms := 0) rfl (by omega) dX9_readsFactor_1) ?_
  refine sm_aload_n (pc := 4) (n := 0) dX9_readsFactor_4 rfl ?_
  refine sm_cV (pc := 5) (ci := 9) (n := 1) (mc := 0) (ms := 0) rfl m_X9_see (cr_X9_364 (X := X_X9_readsFactor) (fr := 11 + 4 * n + 2) (frc := 1) (pc := 5) (mc := 0) (ms := 0) rfl (by omega) dX9_readsFactor_5) ?_
  refine sm_istore_n (pc := 8) (n := 1) dX9_readsFactor_8 rfl ?_
  refine sm_iload_n (pc := 9) (n := 1) dX9_readsFactor_9 rfl ?_
  refine sm_bipush (pc := 10) dX9_readsFactor_10 zc_b_40 ?_
  refine sm_join (pc := 12) (pc' := 152) (sbX9_readsFactor_152 n self hself P) (fun j152 hj152 => ?_)
  refine sm_icmp_ne (pc := 12) (tgt := 23) dX9_readsFactor_12 (by decide) ?_ ?_
  · skip
    refine sm_iload_n (pc := 23) (n := 1) dX9_readsFactor_23 rfl ?_
    refine sm_bipush (pc := 24) dX9_readsFactor_24 zc_b_91 ?_
    refine sm_join (pc := 26) (pc' := 47) (sbX9_readsFactor_47 n self hself P j152 hj152) (fun j47 hj47 => ?_)
    refine sm_icmp_eq (pc := 26) (tgt := 47) dX9_readsFactor_26 (by decide) ?_ ?_
    · skip
      exact hj47
    · skip
      refine sm_iload_n (pc := 29) (n := 1) dX9_readsFactor_29 rfl ?_
      refine sm_bipush (pc := 30) dX9_readsFactor_30 zc_b_68 ?_
      refine sm_icmp_eq (pc := 32) (tgt := 47) dX9_readsFactor_32 (by decide) ?_ ?_
      · skip
        exact hj47
      · skip
        refine sm_iload_n (pc := 35) (n := 1) dX9_readsFactor_35 rfl ?_
        refine sm_bipush (pc := 36) dX9_readsFactor_36 zc_b_80 ?_
        refine sm_icmp_eq (pc := 38) (tgt := 47) dX9_readsFactor_38 (by decide) ?_ ?_
        · skip
          exact hj47
        · skip
          refine sm_iload_n (pc := 41) (n := 1) dX9_readsFactor_41 rfl ?_
          refine sm_bipush (pc := 42) dX9_readsFactor_42 zc_b_77 ?_
          refine sm_icmp_ne (pc := 44) (tgt := 56) dX9_readsFactor_44 (by decide) ?_ ?_
          · skip
            refine sm_iload_n (pc := 56) (n := 1) dX9_readsFactor_56 rfl ?_
            refine sm_bipush (pc := 57) dX9_readsFactor_57 zc_b_88 ?_
            refine sm_icmp_ne (pc := 59) (tgt := 70) dX9_readsFactor_59 (by decide) ?_ ?_
            · skip
              refine sm_iload_n (pc := 70) (n := 1) dX9_readsFactor_70 rfl ?_
              exact scX9_readsFactor_71 n self hself P j152 hj152
            · skip
              refine sm_aload_n (pc := 62) (n := 0) dX9_readsFactor_62 rfl ?_
              exact scX9_readsFactor_63 n self hself P j152 hj152
          · skip
            exact hj47
  · skip
    refine sm_aload_n (pc := 15) (n := 0) dX9_readsFactor_15 rfl ?_
    refine sm_cV (pc := 16) (ci := 9) (n := 1) (mc := 0) (ms := 0) rfl (m_X9_readsInner n self hself) (cr_X9_405 (X := X_X9_readsFactor) (fr := 11 + 4 * n + 2) (frc := 11 + 4 * n + 1) (pc := 16) (mc := 0) (ms := 0) rfl (by omega) dX9_readsFactor_16) ?_
    refine sm_istore_n (pc := 19) (n := 2) dX9_readsFactor_19 rfl ?_
    refine sm_goto (pc := 20) (tgt := 152) dX9_readsFactor_20 (by decide) ?_
    exact hj152
noncomputable def f_X9_readsFactor {d : Nat} (self : List zV → zH d → zP d → Bool) : List zV → zH d → zP d → Bool := zfn 4 (b_X9_readsFactor self)
theorem m_X9_readsFactor {d : Nat} (n : Nat) (self : List zV → zH d → zP d → Bool) (hself : zMet X_X9_readsSum yX9_readsSum (11 + 4 * n) self) : zMet (d := d) X_X9_readsFactor yX9_readsFactor (11 + 4 * n + 2) (f_X9_readsFactor self) := zmet_mk (X := X_X9_readsFactor) (by decide) rfl rfl (s_X9_readsFactor n self hself)

abbrev X_X9_readsTerm : zM := (RX9, cX9_readsTerm, 6, (some .boolean), "readsTerm")
noncomputable def bX9_readsTerm_148 {d : Nat} (self : List zV → zH d → zP d → Bool) (P : zP d) (r86 : zK d) : zK d := (xist 2 (xald 0 (xgfR 25 57 (xpI 11 (xald 0 (xgfI 25 59 (xbin zmul (xild 3 (xbin zadd (xlld 4 (xald 0 (xgfR 25 58 (xild 3 (xlal (xbinj zmulj (xlas (xinc 3 1 r86)))))))))))))))))
set_option maxRecDepth 100000 in
set_option maxHeartbeats 4000000 in
theorem sbX9_readsTerm_148 {d : Nat} [zGh] (n : Nat) (self : List zV → zH d → zP d → Bool) (hself : zMet X_X9_readsSum yX9_readsSum (11 + 4 * n) self) (P : zP d) (r86 : zK d) (hr86 : zSim X_X9_readsTerm (11 + 4 * n + 3) P 86 r86) : zSim X_X9_readsTerm (11 + 4 * n + 3) P 148 (bX9_readsTerm_148 self P r86) := by
  unfold bX9_readsTerm_148
  refine sm_istore_n (pc := 148) (n := 2) dX9_readsTerm_148 rfl ?_
  refine sm_aload_n (pc := 149) (n := 0) dX9_readsTerm_149 rfl ?_
  refine gf_X9_137 (pc := 150) rfl dX9_readsTerm_150 ?_
  refine sm_bipush (pc := 153) dX9_readsTerm_153 zc_b_11 ?_
  refine sm_aload_n (pc := 155) (n := 0) dX9_readsTerm_155 rfl ?_
  refine gf_X9_396 (pc := 156) rfl dX9_readsTerm_156 ?_
  refine sm_imul (pc := 159) dX9_readsTerm_159 ?_
  refine sm_iload_n (pc := 160) (n := 3) dX9_readsTerm_160 rfl ?_
  refine sm_iadd (pc := 161) dX9_readsTerm_161 ?_
  refine sm_lload (pc := 162) (n := 4) dX9_readsTerm_162 ?_
  refine sm_aload_n (pc := 164) (n := 0) dX9_readsTerm_164 rfl ?_
  refine gf_X9_140 (pc := 165) rfl dX9_readsTerm_165 ?_
  refine sm_iload_n (pc := 168) (n := 3) dX9_readsTerm_168 rfl ?_
  refine sm_laload (pc := 169) dX9_readsTerm_169 ?_
  refine sm_lmul (pc := 170) dX9_readsTerm_170 ?_
  refine sm_lastore (pc := 171) dX9_readsTerm_171 ?_
  refine sm_iinc (pc := 172) (n := 3) dX9_readsTerm_172 zc_i_1 ?_
  refine sm_goto (pc := 175) (tgt := 86) dX9_readsTerm_175 (by decide) ?_
  exact hr86
noncomputable def bX9_readsTerm_147 {d : Nat} (self : List zV → zH d → zP d → Bool) (P : zP d) (j148 : zK d) : zK d := (xpI 0 j148)
set_option maxRecDepth 100000 in
set_option maxHeartbeats 4000000 in
theorem sbX9_readsTerm_147 {d : Nat} [zGh] (n : Nat) (self : List zV → zH d → zP d → Bool) (hself : zMet X_X9_readsSum yX9_readsSum (11 + 4 * n) self) (P : zP d) (j148 : zK d) (hj148 : zSim X_X9_readsTerm (11 + 4 * n + 3) P 148 j148) : zSim X_X9_readsTerm (11 + 4 * n + 3) P 147 (bX9_readsTerm_147 self P j148) := by
  unfold bX9_readsTerm_147
  refine sm_iconst (pc := 147) dX9_readsTerm_147 zc_i_0 ?_
  exact hj148
noncomputable def bX9_readsTerm_143 {d : Nat} (self : List zV → zH d → zP d → Bool) (P : zP d) (j148 : zK d) : zK d := (xpI 1 j148)
set_option maxRecDepth 100000 in
set_option maxHeartbeats 4000000 in
theorem sbX9_readsTerm_143 {d : Nat} [zGh] (n : Nat) (self : List zV → zH d → zP d → Bool) (hself : zMet X_X9_readsSum yX9_readsSum (11 + 4 * n) self) (P : zP d) (j148 : zK d) (hj148 : zSim X_X9_readsTerm (11 + 4 * n + 3) P 148 j148) : zSim X_X9_readsTerm (11 + 4 * n + 3) P 143 (bX9_readsTerm_143 self P j148) := by
  unfold bX9_readsTerm_143
  refine sm_iconst (pc := 143) dX9_readsTerm_143 zc_i_1 ?_
  refine sm_goto (pc := 144) (tgt := 148) dX9_readsTerm_144 (by decide) ?_
  exact hj148
noncomputable def cX9_readsTerm_127 {d : Nat} (self : List zV → zH d → zP d → Bool) (P : zP d) (j143 : zK d) (j147 : zK d) : zK d := (xabsj (xpL 1000000000000 (xlld 4 (xabsj (xbinjN zdivj (xlcmp (xif0 t0le j143 j147)))))))
set_option maxRecDepth 100000 in
set_option maxHeartbeats 4000000 in
theorem scX9_readsTerm_127 {d : Nat} [zGh] (n : Nat) (self : List zV → zH d → zP d → Bool) (hself : zMet X_X9_readsSum yX9_readsSum (11 + 4 * n) self) (P : zP d) (j143 : zK d) (j147 : zK d) (hj143 : zSim X_X9_readsTerm (11 + 4 * n + 3) P 143 j143) (hj147 : zSim X_X9_readsTerm (11 + 4 * n + 3) P 147 j147) : zSim X_X9_readsTerm (11 + 4 * n + 3) P 127 (cX9_readsTerm_127 self P j143 j147) := by
  unfold cX9_readsTerm_127
  refine sm_mabsj (pc := 127) wd_1416 wd_763 wd_6 wd_764 (by omega) dX9_readsTerm_127 ?_
  refine sm_ldc2 (pc := 130) dX9_readsTerm_130 wd_1417 zc_cl_1000000000000 ?_
  refine sm_lload (pc := 133) (n := 4) dX9_readsTerm_133 ?_
  refine sm_mabsj (pc := 135) wd_1416 wd_763 wd_6 wd_764 (by omega) dX9_readsTerm_135 ?_
  refine sm_ldiv (pc := 138) dX9_readsTerm_138 ?_
  refine sm_lcmp (pc := 139) dX9_readsTerm_139 ?_
  refine sm_if_gt (pc := 140) (tgt := 147) dX9_readsTerm_140 (by decide) ?_ ?_
  · skip
    exact hj147
  · skip
    exact hj143
noncomputable def lX9_readsTerm_86 {d : Nat} (self : List zV → zH d → zP d → Bool) (P : zP d) (r49 : zK d) (r86 : zK d) : zK d := (xild 3 (xald 0 (xgfI 25 2 (xcmp tge (xild 2 (xif0 t0eq (xald 0 (xpI 6 (xild 1 (xcV 25 3 0 0 f_X9_fails (xzret P))))) r49)) (xald 0 (xgfR 25 57 (xpI 11 (xald 0 (xgfI 25 59 (xbin zmul (xild 3 (xbin zadd (xlal (xlst 4 (xild 2 (xjoin (bX9_readsTerm_148 self P r86) (fun j148 => (xjoin (bX9_readsTerm_147 self P j148) (fun j147 => (xif0 t0eq j147 (xlld 4 (xpL 0 (xlcmp (xjoin (bX9_readsTerm_143 self P j148) (fun j143 => (xif0 t0eq j143 (xald 0 (xgfR 25 58 (xild 3 (xlal (cX9_readsTerm_127 self P j143 j147)))))))))))))))))))))))))))))))
set_option maxRecDepth 100000 in
set_option maxHeartbeats 4000000 in
theorem slX9_readsTerm_86 {d : Nat} [zGh] (n : Nat) (self : List zV → zH d → zP d → Bool) (hself : zMet X_X9_readsSum yX9_readsSum (11 + 4 * n) self) (P : zP d) (r49 : zK d) (r86 : zK d) (hr49 : zSim X_X9_readsTerm (11 + 4 * n + 3) P 49 r49) (hr86 : zSim X_X9_readsTerm (11 + 4 * n + 3) P 86 r86) : zSim X_X9_readsTerm (11 + 4 * n + 3) P 86 (lX9_readsTerm_86 self P r49 r86) := by
  unfold lX9_readsTerm_86
  refine sm_iload_n (pc := 86) (n := 3) dX9_readsTerm_86 rfl ?_
  refine sm_aload_n (pc := 87) (n := 0) dX9_readsTerm_87 rfl ?_
  refine gf_X9_153 (pc := 88) rfl dX9_readsTerm_88 ?_
  refine sm_icmp_ge (pc := 91) (tgt := 178) dX9_readsTerm_91 (by decide) ?_ ?_
  · skip
    refine sm_iload_n (pc := 178) (n := 2) dX9_readsTerm_178 rfl ?_
    refine sm_if_ne (pc := 179) (tgt := 190) dX9_readsTerm_179 (by decide) ?_ ?_
    · skip
      refine sm_goto (pc := 190) (tgt := 49) dX9_readsTerm_190 (by decide) ?_
      exact hr49
    · skip
      refine sm_aload_n (pc := 182) (n := 0) dX9_readsTerm_182 rfl ?_
      refine sm_bipush (pc := 183) dX9_readsTerm_183 zc_b_6 ?_
      refine sm_iload_n (pc := 185) (n := 1) dX9_readsTerm_185 rfl ?_
      refine sm_cV (pc := 186) (ci := 9) (n := 3) (mc := 0) (ms := 0) rfl m_X9_fails (cr_X9_377 (X := X_X9_readsTerm) (fr := 11 + 4 * n + 3) (frc := 1) (pc := 186) (mc := 0) (ms := 0) rfl (by omega) dX9_readsTerm_186) ?_
      exact sm_zreturn (pc := 189) dX9_readsTerm_189 rfl
  · skip
    refine sm_aload_n (pc := 94) (n := 0) dX9_readsTerm_94 rfl ?_
    refine gf_X9_137 (pc := 95) rfl dX9_readsTerm_95 ?_
    refine sm_bipush (pc := 98) dX9_readsTerm_98 zc_b_11 ?_
    refine sm_aload_n (pc := 100) (n := 0) dX9_readsTerm_100 rfl ?_
    refine gf_X9_396 (pc := 101) rfl dX9_readsTerm_101 ?_
    refine sm_imul (pc := 104) dX9_readsTerm_104 ?_
    refine sm_iload_n (pc := 105) (n := 3) dX9_readsTerm_105 rfl ?_
    refine sm_iadd (pc := 106) dX9_readsTerm_106 ?_
    refine sm_laload (pc := 107) dX9_readsTerm_107 ?_
    refine sm_lstore (pc := 108) (n := 4) dX9_readsTerm_108 ?_
    refine sm_iload_n (pc := 110) (n := 2) dX9_readsTerm_110 rfl ?_
    refine sm_join (pc := 111) (pc' := 148) (sbX9_readsTerm_148 n self hself P r86 hr86) (fun j148 hj148 => ?_)
    refine sm_join (pc := 111) (pc' := 147) (sbX9_readsTerm_147 n self hself P j148 hj148) (fun j147 hj147 => ?_)
    refine sm_if_eq (pc := 111) (tgt := 147) dX9_readsTerm_111 (by decide) ?_ ?_
    · skip
      exact hj147
    · skip
      refine sm_lload (pc := 114) (n := 4) dX9_readsTerm_114 ?_
      refine sm_lconst (pc := 116) dX9_readsTerm_116 zc_l_0 ?_
      refine sm_lcmp (pc := 117) dX9_readsTerm_117 ?_
      refine sm_join (pc := 118) (pc' := 143) (sbX9_readsTerm_143 n self hself P j148 hj148) (fun j143 hj143 => ?_)
      refine sm_if_eq (pc := 118) (tgt := 143) dX9_readsTerm_118 (by decide) ?_ ?_
      · skip
        exact hj143
      · skip
        refine sm_aload_n (pc := 121) (n := 0) dX9_readsTerm_121 rfl ?_
        refine gf_X9_140 (pc := 122) rfl dX9_readsTerm_122 ?_
        refine sm_iload_n (pc := 125) (n := 3) dX9_readsTerm_125 rfl ?_
        refine sm_laload (pc := 126) dX9_readsTerm_126 ?_
        exact scX9_readsTerm_127 n self hself P j143 j147 hj143 hj147
noncomputable def lX9_readsTerm_49 {d : Nat} (self : List zV → zH d → zP d → Bool) (P : zP d) (r49 : zK d) : zK d := (xald 0 (xcV 25 1 0 0 f_X9_see (xpI 42 (xcmp Nat.beq (xald 0 (xgfI 25 47 (xist 1 (xald 0 (xdup (xgfI 25 47 (xpI 1 (xbin zadd (xpfI 25 47 (xald 0 (xcV 25 1 0 0 (f_X9_readsFactor self) (xif0 t0eq (xpI 0 (xzret P)) (xpI 1 (xist 2 (xpI 0 (xist 3 (xloop (fun r86 => (lX9_readsTerm_86 self P r49 r86)) 100000))))))))))))))))) (xald 0 (xdup (xgfI 25 53 (xpI 1 (xbin zsub (xpfI 25 53 (xpI 1 (xzret P))))))))))))
set_option maxRecDepth 100000 in
set_option maxHeartbeats 4000000 in
theorem slX9_readsTerm_49 {d : Nat} [zGh] (n : Nat) (self : List zV → zH d → zP d → Bool) (hself : zMet X_X9_readsSum yX9_readsSum (11 + 4 * n) self) (P : zP d) (r49 : zK d) (hr49 : zSim X_X9_readsTerm (11 + 4 * n + 3) P 49 r49) : zSim X_X9_readsTerm (11 + 4 * n + 3) P 49 (lX9_readsTerm_49 self P r49) := by
  unfold lX9_readsTerm_49
  refine sm_aload_n (pc := 49) (n := 0) dX9_readsTerm_49 rfl ?_
  refine sm_cV (pc := 50) (ci := 9) (n := 1) (mc := 0) (ms := 0) rfl m_X9_see (cr_X9_364 (X := X_X9_readsTerm) (fr := 11 + 4 * n + 3) (frc := 1) (pc := 50) (mc := 0) (ms := 0) rfl (by omega) dX9_readsTerm_50) ?_
  refine sm_bipush (pc := 53) dX9_readsTerm_53 zc_b_42 ?_
  refine sm_icmp_ne (pc := 55) (tgt := 193) dX9_readsTerm_55 (by decide) ?_ ?_
  · skip
    refine sm_aload_n (pc := 193) (n := 0) dX9_readsTerm_193 rfl ?_
    refine sm_dup (pc := 194) dX9_readsTerm_194 ?_
    refine gf_X9_359 (pc := 195) rfl dX9_readsTerm_195 ?_
    refine sm_iconst (pc := 198) dX9_readsTerm_198 zc_i_1 ?_
    refine sm_isub (pc := 199) dX9_readsTerm_199 ?_
    refine pf_X9_359 (pc := 200) rfl dX9_readsTerm_200 ?_
    refine sm_iconst (pc := 203) dX9_readsTerm_203 zc_i_1 ?_
    exact sm_zreturn (pc := 204) dX9_readsTerm_204 rfl
  · skip
    refine sm_aload_n (pc := 58) (n := 0) dX9_readsTerm_58 rfl ?_
    refine gf_X9_353 (pc := 59) rfl dX9_readsTerm_59 ?_
    refine sm_istore_n (pc := 62) (n := 1) dX9_readsTerm_62 rfl ?_
    refine sm_aload_n (pc := 63) (n := 0) dX9_readsTerm_63 rfl ?_
    refine sm_dup (pc := 64) dX9_readsTerm_64 ?_
    refine gf_X9_353 (pc := 65) rfl dX9_readsTerm_65 ?_
    refine sm_iconst (pc := 68) dX9_readsTerm_68 zc_i_1 ?_
    refine sm_iadd (pc := 69) dX9_readsTerm_69 ?_
    refine pf_X9_353 (pc := 70) rfl dX9_readsTerm_70 ?_
    refine sm_aload_n (pc := 73) (n := 0) dX9_readsTerm_73 rfl ?_
    refine sm_cV (pc := 74) (ci := 9) (n := 1) (mc := 0) (ms := 0) rfl (m_X9_readsFactor n self hself) (cr_X9_418 (X := X_X9_readsTerm) (fr := 11 + 4 * n + 3) (frc := 11 + 4 * n + 2) (pc := 74) (mc := 0) (ms := 0) rfl (by omega) dX9_readsTerm_74) ?_
    refine sm_if_ne (pc := 77) (tgt := 82) dX9_readsTerm_77 (by decide) ?_ ?_
    · skip
      refine sm_iconst (pc := 82) dX9_readsTerm_82 zc_i_1 ?_
      refine sm_istore_n (pc := 83) (n := 2) dX9_readsTerm_83 rfl ?_
      refine sm_iconst (pc := 84) dX9_readsTerm_84 zc_i_0 ?_
      refine sm_istore_n (pc := 85) (n := 3) dX9_readsTerm_85 rfl ?_
      exact sm_loop (fun r86 hr86 => slX9_readsTerm_86 n self hself P r49 r86 hr49 hr86) _
    · skip
      refine sm_iconst (pc := 80) dX9_readsTerm_80 zc_i_0 ?_
      exact sm_zreturn (pc := 81) dX9_readsTerm_81 rfl
noncomputable def lX9_readsTerm_15 {d : Nat} (self : List zV → zH d → zP d → Bool) (P : zP d) (r15 : zK d) : zK d := (xild 1 (xald 0 (xgfI 25 2 (xcmp tge (xloop (fun r49 => (lX9_readsTerm_49 self P r49)) 100000) (xald 0 (xgfR 25 57 (xpI 11 (xald 0 (xgfI 25 59 (xbin zmul (xild 1 (xbin zadd (xald 0 (xgfR 25 58 (xild 1 (xlal (xlas (xinc 1 1 r15))))))))))))))))))
set_option maxRecDepth 100000 in
set_option maxHeartbeats 4000000 in
theorem slX9_readsTerm_15 {d : Nat} [zGh] (n : Nat) (self : List zV → zH d → zP d → Bool) (hself : zMet X_X9_readsSum yX9_readsSum (11 + 4 * n) self) (P : zP d) (r15 : zK d) (hr15 : zSim X_X9_readsTerm (11 + 4 * n + 3) P 15 r15) : zSim X_X9_readsTerm (11 + 4 * n + 3) P 15 (lX9_readsTerm_15 self P r15) := by
  unfold lX9_readsTerm_15
  refine sm_iload_n (pc := 15) (n := 1) dX9_readsTerm_15 rfl ?_
  refine sm_aload_n (pc := 16) (n := 0) dX9_readsTerm_16 rfl ?_
  refine gf_X9_153 (pc := 17) rfl dX9_readsTerm_17 ?_
  refine sm_icmp_ge (pc := 20) (tgt := 49) dX9_readsTerm_20 (by decide) ?_ ?_
  · skip
    exact sm_loop (fun r49 hr49 => slX9_readsTerm_49 n self hself P r49 hr49) _
  · skip
    refine sm_aload_n (pc := 23) (n := 0) dX9_readsTerm_23 rfl ?_
    refine gf_X9_137 (pc := 24) rfl dX9_readsTerm_24 ?_
    refine sm_bipush (pc := 27) dX9_readsTerm_27 zc_b_11 ?_
    refine sm_aload_n (pc := 29) (n := 0) dX9_readsTerm_29 rfl ?_
    refine gf_X9_396 (pc := 30) rfl dX9_readsTerm_30 ?_
    refine sm_imul (pc := 33) dX9_readsTerm_33 ?_
    refine sm_iload_n (pc := 34) (n := 1) dX9_readsTerm_34 rfl ?_
    refine sm_iadd (pc := 35) dX9_readsTerm_35 ?_
    refine sm_aload_n (pc := 36) (n := 0) dX9_readsTerm_36 rfl ?_
    refine gf_X9_140 (pc := 37) rfl dX9_readsTerm_37 ?_
    refine sm_iload_n (pc := 40) (n := 1) dX9_readsTerm_40 rfl ?_
    refine sm_laload (pc := 41) dX9_readsTerm_41 ?_
    refine sm_lastore (pc := 42) dX9_readsTerm_42 ?_
    refine sm_iinc (pc := 43) (n := 1) dX9_readsTerm_43 zc_i_1 ?_
    refine sm_goto (pc := 46) (tgt := 15) dX9_readsTerm_46 (by decide) ?_
    exact hr15
noncomputable def b_X9_readsTerm {d : Nat} (self : List zV → zH d → zP d → Bool) (P : zP d) : zK d := (xald 0 (xcV 25 1 0 0 f_X9_begin (xald 0 (xcV 25 1 0 0 (f_X9_readsFactor self) (xif0 t0eq (xpI 0 (xzret P)) (xpI 0 (xist 1 (xloop (fun r15 => (lX9_readsTerm_15 self P r15)) 100000))))))))
set_option maxRecDepth 100000 in
set_option maxHeartbeats 4000000 in
theorem s_X9_readsTerm {d : Nat} [zGh] (n : Nat) (self : List zV → zH d → zP d → Bool) (hself : zMet X_X9_readsSum yX9_readsSum (11 + 4 * n) self) (P : zP d) : zSim X_X9_readsTerm (11 + 4 * n + 3) P 0 (b_X9_readsTerm self P) := by
  unfold b_X9_readsTerm
  refine sm_aload_n (pc := 0) (n := 0) dX9_readsTerm_0 rfl ?_
  refine sm_cV (pc := 1) (ci := 9) (n := 1) (mc := 0) (ms := 0) rfl m_X9_begin (cr_X9_402 (X := X_X9_readsTerm) (fr := 11 + 4 * n + 3) (frc := 2) (pc := 1) (mc := 0) (ms := 0) rfl (by omega) dX9_readsTerm_1) ?_
  refine sm_aload_n (pc := 4) (n := 0) dX9_readsTerm_4 rfl ?_
  refine sm_cV (pc := 5) (ci := 9) (n := 1) (mc := 0) (ms := 0) rfl (m_X9_readsFactor n self hself) (cr_X9_418 (X := X_X9_readsTerm) (fr := 11 + 4 * n + 3) (frc := 11 + 4 * n + 2) (pc := 5) (mc := 0) (ms := 0) rfl (by omega) dX9_readsTerm_5) ?_
  refine sm_if_ne (pc := 8) (tgt := 13) dX9_readsTerm_8 (by decide) ?_ ?_
  · skip
    refine sm_iconst (pc := 13) dX9_readsTerm_13 zc_i_0 ?_
    refine sm_istore_n (pc := 14) (n := 1) dX9_readsTerm_14 rfl ?_
    exact sm_loop (fun r15 hr15 => slX9_readsTerm_15 n self hself P r15 hr15) _
  · skip
    refine sm_iconst (pc := 11) dX9_readsTerm_11 zc_i_0 ?_
    exact sm_zreturn (pc := 12) dX9_readsTerm_12 rfl
noncomputable def f_X9_readsTerm {d : Nat} (self : List zV → zH d → zP d → Bool) : List zV → zH d → zP d → Bool := zfn 6 (b_X9_readsTerm self)
theorem m_X9_readsTerm {d : Nat} (n : Nat) (self : List zV → zH d → zP d → Bool) (hself : zMet X_X9_readsSum yX9_readsSum (11 + 4 * n) self) : zMet (d := d) X_X9_readsTerm yX9_readsTerm (11 + 4 * n + 3) (f_X9_readsTerm self) := zmet_mk (X := X_X9_readsTerm) (by decide) rfl rfl (s_X9_readsTerm n self hself)

noncomputable def cX9_readsSum_159 {d : Nat} (self : List zV → zH d → zP d → Bool) (P : zP d) (r121 : zK d) : zK d := (xlal (xbinj zmulj (xbinj zaddj (xlas (xinc 3 1 r121)))))
set_option maxRecDepth 100000 in
set_option maxHeartbeats 4000000 in
theorem scX9_readsSum_159 {d : Nat} [zGh] (n : Nat) (self : List zV → zH d → zP d → Bool) (hself : zMet X_X9_readsSum yX9_readsSum (11 + 4 * n) self) (P : zP d) (r121 : zK d) (hr121 : zSim X_X9_readsSum (11 + 4 * n + 4) P 121 r121) : zSim X_X9_readsSum (11 + 4 * n + 4) P 159 (cX9_readsSum_159 self P r121) := by
  unfold cX9_readsSum_159
  refine sm_laload (pc := 159) dX9_readsSum_159 ?_
  refine sm_lmul (pc := 160) dX9_readsSum_160 ?_
  refine sm_ladd (pc := 161) dX9_readsSum_161 ?_
  refine sm_lastore (pc := 162) dX9_readsSum_162 ?_
  refine sm_iinc (pc := 163) (n := 3) dX9_readsSum_163 zc_i_1 ?_
  refine sm_goto (pc := 166) (tgt := 121) dX9_readsSum_166 (by decide) ?_
  exact hr121
noncomputable def lX9_readsSum_121 {d : Nat} (self : List zV → zH d → zP d → Bool) (P : zP d) (r121 : zK d) (r57 : zK d) : zK d := (xild 3 (xald 0 (xgfI 25 2 (xcmp tge (xald 0 (xald 0 (xgfR 25 56 (xcV 25 2 0 0 f_X9_areNear (xif0 t0eq (xald 0 (xpI 6 (xild 1 (xcV 25 3 0 0 f_X9_fails (xzret P))))) r57))))) (xald 0 (xgfR 25 56 (xpI 11 (xald 0 (xgfI 25 59 (xbin zmul (xild 3 (xbin zadd (xdup2 (xlal (xild 2 (xi2l (xald 0 (xgfR 25 57 (xpI 11 (xald 0 (xgfI 25 59 (xbin zmul (xild 3 (xbin zadd (cX9_readsSum_159 self P r121)))))))))))))))))))))))))
set_option maxRecDepth 100000 in
set_option maxHeartbeats 4000000 in
theorem slX9_readsSum_121 {d : Nat} [zGh] (n : Nat) (self : List zV → zH d → zP d → Bool) (hself : zMet X_X9_readsSum yX9_readsSum (11 + 4 * n) self) (P : zP d) (r121 : zK d) (r57 : zK d) (hr121 : zSim X_X9_readsSum (11 + 4 * n + 4) P 121 r121) (hr57 : zSim X_X9_readsSum (11 + 4 * n + 4) P 57 r57) : zSim X_X9_readsSum (11 + 4 * n + 4) P 121 (lX9_readsSum_121 self P r121 r57) := by
  unfold lX9_readsSum_121
  refine sm_iload_n (pc := 121) (n := 3) dX9_readsSum_121 rfl ?_
  refine sm_aload_n (pc := 122) (n := 0) dX9_readsSum_122 rfl ?_
  refine gf_X9_153 (pc := 123) rfl dX9_readsSum_123 ?_
  refine sm_icmp_ge (pc := 126) (tgt := 169) dX9_readsSum_126 (by decide) ?_ ?_
  · skip
    refine sm_aload_n (pc := 169) (n := 0) dX9_readsSum_169 rfl ?_
    refine sm_aload_n (pc := 170) (n := 0) dX9_readsSum_170 rfl ?_
    refine gf_X9_134 (pc := 171) rfl dX9_readsSum_171 ?_
    refine sm_cV (pc := 174) (ci := 9) (n := 2) (mc := 0) (ms := 0) rfl m_X9_areNear (cr_X9_428 (X := X_X9_readsSum) (fr := 11 + 4 * n + 4) (frc := 2) (pc := 174) (mc := 0) (ms := 0) rfl (by omega) dX9_readsSum_174) ?_
    refine sm_if_ne (pc := 177) (tgt := 188) dX9_readsSum_177 (by decide) ?_ ?_
    · skip
      refine sm_goto (pc := 188) (tgt := 57) dX9_readsSum_188 (by decide) ?_
      exact hr57
    · skip
      refine sm_aload_n (pc := 180) (n := 0) dX9_readsSum_180 rfl ?_
      refine sm_bipush (pc := 181) dX9_readsSum_181 zc_b_6 ?_
      refine sm_iload_n (pc := 183) (n := 1) dX9_readsSum_183 rfl ?_
      refine sm_cV (pc := 184) (ci := 9) (n := 3) (mc := 0) (ms := 0) rfl m_X9_fails (cr_X9_377 (X := X_X9_readsSum) (fr := 11 + 4 * n + 4) (frc := 1) (pc := 184) (mc := 0) (ms := 0) rfl (by omega) dX9_readsSum_184) ?_
      exact sm_zreturn (pc := 187) dX9_readsSum_187 rfl
  · skip
    refine sm_aload_n (pc := 129) (n := 0) dX9_readsSum_129 rfl ?_
    refine gf_X9_134 (pc := 130) rfl dX9_readsSum_130 ?_
    refine sm_bipush (pc := 133) dX9_readsSum_133 zc_b_11 ?_
    refine sm_aload_n (pc := 135) (n := 0) dX9_readsSum_135 rfl ?_
    refine gf_X9_396 (pc := 136) rfl dX9_readsSum_136 ?_
    refine sm_imul (pc := 139) dX9_readsSum_139 ?_
    refine sm_iload_n (pc := 140) (n := 3) dX9_readsSum_140 rfl ?_
    refine sm_iadd (pc := 141) dX9_readsSum_141 ?_
    refine sm_dup2 (pc := 142) dX9_readsSum_142 ?_
    refine sm_laload (pc := 143) dX9_readsSum_143 ?_
    refine sm_iload_n (pc := 144) (n := 2) dX9_readsSum_144 rfl ?_
    refine sm_i2l (pc := 145) dX9_readsSum_145 ?_
    refine sm_aload_n (pc := 146) (n := 0) dX9_readsSum_146 rfl ?_
    refine gf_X9_137 (pc := 147) rfl dX9_readsSum_147 ?_
    refine sm_bipush (pc := 150) dX9_readsSum_150 zc_b_11 ?_
    refine sm_aload_n (pc := 152) (n := 0) dX9_readsSum_152 rfl ?_
    refine gf_X9_396 (pc := 153) rfl dX9_readsSum_153 ?_
    refine sm_imul (pc := 156) dX9_readsSum_156 ?_
    refine sm_iload_n (pc := 157) (n := 3) dX9_readsSum_157 rfl ?_
    refine sm_iadd (pc := 158) dX9_readsSum_158 ?_
    exact scX9_readsSum_159 n self hself P r121 hr121
noncomputable def bX9_readsSum_99 {d : Nat} (self : List zV → zH d → zP d → Bool) (P : zP d) (r57 : zK d) : zK d := (xist 2 (xald 0 (xdup (xgfI 25 47 (xpI 1 (xbin zadd (xpfI 25 47 (xald 0 (xcV 25 1 0 0 (f_X9_readsTerm self) (xif0 t0eq (xpI 0 (xzret P)) (xpI 0 (xist 3 (xloop (fun r121 => (lX9_readsSum_121 self P r121 r57)) 100000)))))))))))))
set_option maxRecDepth 100000 in
set_option maxHeartbeats 4000000 in
theorem sbX9_readsSum_99 {d : Nat} [zGh] (n : Nat) (self : List zV → zH d → zP d → Bool) (hself : zMet X_X9_readsSum yX9_readsSum (11 + 4 * n) self) (P : zP d) (r57 : zK d) (hr57 : zSim X_X9_readsSum (11 + 4 * n + 4) P 57 r57) : zSim X_X9_readsSum (11 + 4 * n + 4) P 99 (bX9_readsSum_99 self P r57) := by
  unfold bX9_readsSum_99
  refine sm_istore_n (pc := 99) (n := 2) dX9_readsSum_99 rfl ?_
  refine sm_aload_n (pc := 100) (n := 0) dX9_readsSum_100 rfl ?_
  refine sm_dup (pc := 101) dX9_readsSum_101 ?_
  refine gf_X9_353 (pc := 102) rfl dX9_readsSum_102 ?_
  refine sm_iconst (pc := 105) dX9_readsSum_105 zc_i_1 ?_
  refine sm_iadd (pc := 106) dX9_readsSum_106 ?_
  refine pf_X9_353 (pc := 107) rfl dX9_readsSum_107 ?_
  refine sm_aload_n (pc := 110) (n := 0) dX9_readsSum_110 rfl ?_
  refine sm_cV (pc := 111) (ci := 9) (n := 1) (mc := 0) (ms := 0) rfl (m_X9_readsTerm n self hself) (cr_X9_425 (X := X_X9_readsSum) (fr := 11 + 4 * n + 4) (frc := 11 + 4 * n + 3) (pc := 111) (mc := 0) (ms := 0) rfl (by omega) dX9_readsSum_111) ?_
  refine sm_if_ne (pc := 114) (tgt := 119) dX9_readsSum_114 (by decide) ?_ ?_
  · skip
    refine sm_iconst (pc := 119) dX9_readsSum_119 zc_i_0 ?_
    refine sm_istore_n (pc := 120) (n := 3) dX9_readsSum_120 rfl ?_
    exact sm_loop (fun r121 hr121 => slX9_readsSum_121 n self hself P r121 r57 hr121 hr57) _
  · skip
    refine sm_iconst (pc := 117) dX9_readsSum_117 zc_i_0 ?_
    exact sm_zreturn (pc := 118) dX9_readsSum_118 rfl
noncomputable def bX9_readsSum_75 {d : Nat} (self : List zV → zH d → zP d → Bool) (P : zP d) (r57 : zK d) : zK d := (xald 0 (xgfI 25 47 (xist 1 (xald 0 (xgfR 25 45 (xald 0 (xgfI 25 47 (xald1 0 (xpI 43 (xjoin (bX9_readsSum_99 self P r57) (fun j99 => (xcmp Nat.beq (xpI 1 j99) (xpI 4294967295 j99)))))))))))))
set_option maxRecDepth 100000 in
set_option maxHeartbeats 4000000 in
theorem sbX9_readsSum_75 {d : Nat} [zGh] (n : Nat) (self : List zV → zH d → zP d → Bool) (hself : zMet X_X9_readsSum yX9_readsSum (11 + 4 * n) self) (P : zP d) (r57 : zK d) (hr57 : zSim X_X9_readsSum (11 + 4 * n + 4) P 57 r57) : zSim X_X9_readsSum (11 + 4 * n + 4) P 75 (bX9_readsSum_75 self P r57) := by
  unfold bX9_readsSum_75
  refine sm_aload_n (pc := 75) (n := 0) dX9_readsSum_75 rfl ?_
  refine gf_X9_353 (pc := 76) rfl dX9_readsSum_76 ?_
  refine sm_istore_n (pc := 79) (n := 1) dX9_readsSum_79 rfl ?_
  refine sm_aload_n (pc := 80) (n := 0) dX9_readsSum_80 rfl ?_
  refine gf_X9_121 (pc := 81) rfl dX9_readsSum_81 ?_
  refine sm_aload_n (pc := 84) (n := 0) dX9_readsSum_84 rfl ?_
  refine gf_X9_353 (pc := 85) rfl dX9_readsSum_85 ?_
  refine sm_iaload (pc := 88) dX9_readsSum_88 ?_
  refine sm_bipush (pc := 89) dX9_readsSum_89 zc_b_43 ?_
  refine sm_join (pc := 91) (pc' := 99) (sbX9_readsSum_99 n self hself P r57 hr57) (fun j99 hj99 => ?_)
  refine sm_icmp_ne (pc := 91) (tgt := 98) dX9_readsSum_91 (by decide) ?_ ?_
  · skip
    refine sm_iconst (pc := 98) dX9_readsSum_98 zc_i_m1 ?_
    exact hj99
  · skip
    refine sm_iconst (pc := 94) dX9_readsSum_94 zc_i_1 ?_
    refine sm_goto (pc := 95) (tgt := 99) dX9_readsSum_95 (by decide) ?_
    exact hj99
noncomputable def lX9_readsSum_57 {d : Nat} (self : List zV → zH d → zP d → Bool) (P : zP d) (r57 : zK d) : zK d := (xald 0 (xcV 25 1 0 0 f_X9_see (xpI 43 (xjoin (bX9_readsSum_75 self P r57) (fun j75 => (xcmp Nat.beq j75 (xald 0 (xcV 25 1 0 0 f_X9_see (xpI 45 (xcmp Nat.beq j75 (xald 0 (xdup (xgfI 25 53 (xpI 1 (xbin zsub (xpfI 25 53 (xpI 1 (xzret P))))))))))))))))))
set_option maxRecDepth 100000 in
set_option maxHeartbeats 4000000 in
theorem slX9_readsSum_57 {d : Nat} [zGh] (n : Nat) (self : List zV → zH d → zP d → Bool) (hself : zMet X_X9_readsSum yX9_readsSum (11 + 4 * n) self) (P : zP d) (r57 : zK d) (hr57 : zSim X_X9_readsSum (11 + 4 * n + 4) P 57 r57) : zSim X_X9_readsSum (11 + 4 * n + 4) P 57 (lX9_readsSum_57 self P r57) := by
  unfold lX9_readsSum_57
  refine sm_aload_n (pc := 57) (n := 0) dX9_readsSum_57 rfl ?_
  refine sm_cV (pc := 58) (ci := 9) (n := 1) (mc := 0) (ms := 0) rfl m_X9_see (cr_X9_364 (X := X_X9_readsSum) (fr := 11 + 4 * n + 4) (frc := 1) (pc := 58) (mc := 0) (ms := 0) rfl (by omega) dX9_readsSum_58) ?_
  refine sm_bipush (pc := 61) dX9_readsSum_61 zc_b_43 ?_
  refine sm_join (pc := 63) (pc' := 75) (sbX9_readsSum_75 n self hself P r57 hr57) (fun j75 hj75 => ?_)
  refine sm_icmp_eq (pc := 63) (tgt := 75) dX9_readsSum_63 (by decide) ?_ ?_
  · skip
    exact hj75
  · skip
    refine sm_aload_n (pc := 66) (n := 0) dX9_readsSum_66 rfl ?_
    refine sm_cV (pc := 67) (ci := 9) (n := 1) (mc := 0) (ms := 0) rfl m_X9_see (cr_X9_364 (X := X_X9_readsSum) (fr := 11 + 4 * n + 4) (frc := 1) (pc := 67) (mc := 0) (ms := 0) rfl (by omega) dX9_readsSum_67) ?_
    refine sm_bipush (pc := 70) dX9_readsSum_70 zc_b_45 ?_
    refine sm_icmp_ne (pc := 72) (tgt := 191) dX9_readsSum_72 (by decide) ?_ ?_
    · skip
      refine sm_aload_n (pc := 191) (n := 0) dX9_readsSum_191 rfl ?_
      refine sm_dup (pc := 192) dX9_readsSum_192 ?_
      refine gf_X9_359 (pc := 193) rfl dX9_readsSum_193 ?_
      refine sm_iconst (pc := 196) dX9_readsSum_196 zc_i_1 ?_
      refine sm_isub (pc := 197) dX9_readsSum_197 ?_
      refine pf_X9_359 (pc := 198) rfl dX9_readsSum_198 ?_
      refine sm_iconst (pc := 201) dX9_readsSum_201 zc_i_1 ?_
      exact sm_zreturn (pc := 202) dX9_readsSum_202 rfl
    · skip
      exact hj75
noncomputable def lX9_readsSum_15 {d : Nat} (self : List zV → zH d → zP d → Bool) (P : zP d) (r15 : zK d) : zK d := (xild 1 (xald 0 (xgfI 25 2 (xcmp tge (xloop (fun r57 => (lX9_readsSum_57 self P r57)) 100000) (xald 0 (xgfR 25 56 (xpI 11 (xald 0 (xgfI 25 59 (xbin zmul (xild 1 (xbin zadd (xald 0 (xgfR 25 57 (xpI 11 (xald 0 (xgfI 25 59 (xbin zmul (xild 1 (xbin zadd (xlal (xlas (xinc 1 1 r15)))))))))))))))))))))))
set_option maxRecDepth 100000 in
set_option maxHeartbeats 4000000 in
theorem slX9_readsSum_15 {d : Nat} [zGh] (n : Nat) (self : List zV → zH d → zP d → Bool) (hself : zMet X_X9_readsSum yX9_readsSum (11 + 4 * n) self) (P : zP d) (r15 : zK d) (hr15 : zSim X_X9_readsSum (11 + 4 * n + 4) P 15 r15) : zSim X_X9_readsSum (11 + 4 * n + 4) P 15 (lX9_readsSum_15 self P r15) := by
  unfold lX9_readsSum_15
  refine sm_iload_n (pc := 15) (n := 1) dX9_readsSum_15 rfl ?_
  refine sm_aload_n (pc := 16) (n := 0) dX9_readsSum_16 rfl ?_
  refine gf_X9_153 (pc := 17) rfl dX9_readsSum_17 ?_
  refine sm_icmp_ge (pc := 20) (tgt := 57) dX9_readsSum_20 (by decide) ?_ ?_
  · skip
    exact sm_loop (fun r57 hr57 => slX9_readsSum_57 n self hself P r57 hr57) _
  · skip
    refine sm_aload_n (pc := 23) (n := 0) dX9_readsSum_23 rfl ?_
    refine gf_X9_134 (pc := 24) rfl dX9_readsSum_24 ?_
    refine sm_bipush (pc := 27) dX9_readsSum_27 zc_b_11 ?_
    refine sm_aload_n (pc := 29) (n := 0) dX9_readsSum_29 rfl ?_
    refine gf_X9_396 (pc := 30) rfl dX9_readsSum_30 ?_
    refine sm_imul (pc := 33) dX9_readsSum_33 ?_
    refine sm_iload_n (pc := 34) (n := 1) dX9_readsSum_34 rfl ?_
    refine sm_iadd (pc := 35) dX9_readsSum_35 ?_
    refine sm_aload_n (pc := 36) (n := 0) dX9_readsSum_36 rfl ?_
    refine gf_X9_137 (pc := 37) rfl dX9_readsSum_37 ?_
    refine sm_bipush (pc := 40) dX9_readsSum_40 zc_b_11 ?_
    refine sm_aload_n (pc := 42) (n := 0) dX9_readsSum_42 rfl ?_
    refine gf_X9_396 (pc := 43) rfl dX9_readsSum_43 ?_
    refine sm_imul (pc := 46) dX9_readsSum_46 ?_
    refine sm_iload_n (pc := 47) (n := 1) dX9_readsSum_47 rfl ?_
    refine sm_iadd (pc := 48) dX9_readsSum_48 ?_
    refine sm_laload (pc := 49) dX9_readsSum_49 ?_
    refine sm_lastore (pc := 50) dX9_readsSum_50 ?_
    refine sm_iinc (pc := 51) (n := 1) dX9_readsSum_51 zc_i_1 ?_
    refine sm_goto (pc := 54) (tgt := 15) dX9_readsSum_54 (by decide) ?_
    exact hr15
noncomputable def b_X9_readsSum {d : Nat} (self : List zV → zH d → zP d → Bool) (P : zP d) : zK d := (xald 0 (xcV 25 1 0 0 f_X9_begin (xald 0 (xcV 25 1 0 0 (f_X9_readsTerm self) (xif0 t0eq (xpI 0 (xzret P)) (xpI 0 (xist 1 (xloop (fun r15 => (lX9_readsSum_15 self P r15)) 100000))))))))
set_option maxRecDepth 100000 in
set_option maxHeartbeats 4000000 in
theorem s_X9_readsSum {d : Nat} [zGh] (n : Nat) (self : List zV → zH d → zP d → Bool) (hself : zMet X_X9_readsSum yX9_readsSum (11 + 4 * n) self) (P : zP d) : zSim X_X9_readsSum (11 + 4 * n + 4) P 0 (b_X9_readsSum self P) := by
  unfold b_X9_readsSum
  refine sm_aload_n (pc := 0) (n := 0) dX9_readsSum_0 rfl ?_
  refine sm_cV (pc := 1) (ci := 9) (n := 1) (mc := 0) (ms := 0) rfl m_X9_begin (cr_X9_402 (X := X_X9_readsSum) (fr := 11 + 4 * n + 4) (frc := 2) (pc := 1) (mc := 0) (ms := 0) rfl (by omega) dX9_readsSum_1) ?_
  refine sm_aload_n (pc := 4) (n := 0) dX9_readsSum_4 rfl ?_
  refine sm_cV (pc := 5) (ci := 9) (n := 1) (mc := 0) (ms := 0) rfl (m_X9_readsTerm n self hself) (cr_X9_425 (X := X_X9_readsSum) (fr := 11 + 4 * n + 4) (frc := 11 + 4 * n + 3) (pc := 5) (mc := 0) (ms := 0) rfl (by omega) dX9_readsSum_5) ?_
  refine sm_if_ne (pc := 8) (tgt := 13) dX9_readsSum_8 (by decide) ?_ ?_
  · skip
    refine sm_iconst (pc := 13) dX9_readsSum_13 zc_i_0 ?_
    refine sm_istore_n (pc := 14) (n := 1) dX9_readsSum_14 rfl ?_
    exact sm_loop (fun r15 hr15 => slX9_readsSum_15 n self hself P r15 hr15) _
  · skip
    refine sm_iconst (pc := 11) dX9_readsSum_11 zc_i_0 ?_
    exact sm_zreturn (pc := 12) dX9_readsSum_12 rfl

noncomputable def f_X9_readsSum {d : Nat} : List zV → zH d → zP d → Bool := zrec 4 b_X9_readsSum 6
theorem m_X9_readsSum {d : Nat} : zMet (d := d) X_X9_readsSum yX9_readsSum 35 f_X9_readsSum := zmet_rec4 (X := X_X9_readsSum) (fr := 11) (by decide) rfl rfl (fun n f hf _ P => s_X9_readsSum n f hf P) 6

abbrev X_X9_text : zM := (RX9, cX9_text, 4, (some .int), "text")
noncomputable def lX9_text_95 {d : Nat} (P : zP d) (r95 : zK d) : zK d := (xild 3 (xald 0 (xgfI 25 2 (xcmp tge (xpI 0 (xiret P)) (xald 0 (xgfR 25 43 (xpI 11 (xild 1 (xbin zmul (xild 3 (xbin zadd (xald 0 (xgfR 25 56 (xild 3 (xlal (xlas (xinc 3 1 r95)))))))))))))))))
set_option maxRecDepth 100000 in
set_option maxHeartbeats 4000000 in
theorem slX9_text_95 {d : Nat} [zGh] (P : zP d) (r95 : zK d) (hr95 : zSim X_X9_text 36 P 95 r95) : zSim X_X9_text 36 P 95 (lX9_text_95 P r95) := by
  unfold lX9_text_95
  refine sm_iload_n (pc := 95) (n := 3) dX9_text_95 rfl ?_
  refine sm_aload_n (pc := 96) (n := 0) dX9_text_96 rfl ?_
  refine gf_X9_153 (pc := 97) rfl dX9_text_97 ?_
  refine sm_icmp_ge (pc := 100) (tgt := 126) dX9_text_100 (by decide) ?_ ?_
  · skip
    refine sm_iconst (pc := 126) dX9_text_126 zc_i_0 ?_
    exact sm_ireturn (pc := 127) dX9_text_127 rfl
  · skip
    refine sm_aload_n (pc := 103) (n := 0) dX9_text_103 rfl ?_
    refine gf_X9_115 (pc := 104) rfl dX9_text_104 ?_
    refine sm_bipush (pc := 107) dX9_text_107 zc_b_11 ?_
    refine sm_iload_n (pc := 109) (n := 1) dX9_text_109 rfl ?_
    refine sm_imul (pc := 110) dX9_text_110 ?_
    refine sm_iload_n (pc := 111) (n := 3) dX9_text_111 rfl ?_
    refine sm_iadd (pc := 112) dX9_text_112 ?_
    refine sm_aload_n (pc := 113) (n := 0) dX9_text_113 rfl ?_
    refine gf_X9_134 (pc := 114) rfl dX9_text_114 ?_
    refine sm_iload_n (pc := 117) (n := 3) dX9_text_117 rfl ?_
    refine sm_laload (pc := 118) dX9_text_118 ?_
    refine sm_lastore (pc := 119) dX9_text_119 ?_
    refine sm_iinc (pc := 120) (n := 3) dX9_text_120 zc_i_1 ?_
    refine sm_goto (pc := 123) (tgt := 95) dX9_text_123 (by decide) ?_
    exact hr95
noncomputable def bX9_text_72 {d : Nat} (P : zP d) : zK d := (xald 0 (xpI 0 (xpfI 25 46 (xild 1 (xcS 1 0 0 f_X9_isSlot (xif0 t0eq (xpI 4294967294 (xiret P)) (xild 2 (xif0 t0eq (xpI 4294967295 (xiret P)) (xpI 0 (xist 3 (xloop (fun r95 => (lX9_text_95 P r95)) 100000)))))))))))
set_option maxRecDepth 100000 in
set_option maxHeartbeats 4000000 in
theorem sbX9_text_72 {d : Nat} [zGh] (P : zP d) : zSim X_X9_text 36 P 72 (bX9_text_72 P) := by
  unfold bX9_text_72
  refine sm_aload_n (pc := 72) (n := 0) dX9_text_72 rfl ?_
  refine sm_iconst (pc := 73) dX9_text_73 zc_i_0 ?_
  refine pf_X9_347 (pc := 74) rfl dX9_text_74 ?_
  refine sm_iload_n (pc := 77) (n := 1) dX9_text_77 rfl ?_
  refine sm_cS (pc := 78) (n := 1) (mc := 0) (ms := 0) m_X9_isSlot (cr_X9_319 (X := X_X9_text) (fr := 36) (frc := 2) (pc := 78) (mc := 0) (ms := 0) rfl (by decide) dX9_text_78) ?_
  refine sm_if_ne (pc := 81) (tgt := 87) dX9_text_81 (by decide) ?_ ?_
  · skip
    refine sm_iload_n (pc := 87) (n := 2) dX9_text_87 rfl ?_
    refine sm_if_ne (pc := 88) (tgt := 93) dX9_text_88 (by decide) ?_ ?_
    · skip
      refine sm_iconst (pc := 93) dX9_text_93 zc_i_0 ?_
      refine sm_istore_n (pc := 94) (n := 3) dX9_text_94 rfl ?_
      exact sm_loop (fun r95 hr95 => slX9_text_95 P r95 hr95) _
    · skip
      refine sm_iconst (pc := 91) dX9_text_91 zc_i_m1 ?_
      exact sm_ireturn (pc := 92) dX9_text_92 rfl
  · skip
    refine sm_bipush (pc := 84) dX9_text_84 zc_b_m2 ?_
    exact sm_ireturn (pc := 86) dX9_text_86 rfl
noncomputable def bX9_text_49 {d : Nat} (P : zP d) : zK d := (xist 2 (xild 2 (xjoin (bX9_text_72 P) (fun j72 => (xif0 t0eq j72 (xald 0 (xcV 25 1 0 0 f_X9_see (xpI 4294967295 (xcmp Nat.beq j72 (xald 0 (xpI 1 (xald 0 (xgfI 25 47 (xcV 25 3 0 0 f_X9_fails (xist 2 j72)))))))))))))))
set_option maxRecDepth 100000 in
set_option maxHeartbeats 4000000 in
theorem sbX9_text_49 {d : Nat} [zGh] (P : zP d) : zSim X_X9_text 36 P 49 (bX9_text_49 P) := by
  unfold bX9_text_49
  refine sm_istore_n (pc := 49) (n := 2) dX9_text_49 rfl ?_
  refine sm_iload_n (pc := 50) (n := 2) dX9_text_50 rfl ?_
  refine sm_join (pc := 51) (pc' := 72) (sbX9_text_72 P) (fun j72 hj72 => ?_)
  refine sm_if_eq (pc := 51) (tgt := 72) dX9_text_51 (by decide) ?_ ?_
  · skip
    exact hj72
  · skip
    refine sm_aload_n (pc := 54) (n := 0) dX9_text_54 rfl ?_
    refine sm_cV (pc := 55) (ci := 9) (n := 1) (mc := 0) (ms := 0) rfl m_X9_see (cr_X9_364 (X := X_X9_text) (fr := 36) (frc := 1) (pc := 55) (mc := 0) (ms := 0) rfl (by decide) dX9_text_55) ?_
    refine sm_iconst (pc := 58) dX9_text_58 zc_i_m1 ?_
    refine sm_icmp_eq (pc := 59) (tgt := 72) dX9_text_59 (by decide) ?_ ?_
    · skip
      exact hj72
    · skip
      refine sm_aload_n (pc := 62) (n := 0) dX9_text_62 rfl ?_
      refine sm_iconst (pc := 63) dX9_text_63 zc_i_1 ?_
      refine sm_aload_n (pc := 64) (n := 0) dX9_text_64 rfl ?_
      refine gf_X9_353 (pc := 65) rfl dX9_text_65 ?_
      refine sm_cV (pc := 68) (ci := 9) (n := 3) (mc := 0) (ms := 0) rfl m_X9_fails (cr_X9_377 (X := X_X9_text) (fr := 36) (frc := 1) (pc := 68) (mc := 0) (ms := 0) rfl (by decide) dX9_text_68) ?_
      refine sm_istore_n (pc := 71) (n := 2) dX9_text_71 rfl ?_
      exact hj72
noncomputable def bX9_text_48 {d : Nat} (P : zP d) (j49 : zK d) : zK d := (xpI 0 j49)
set_option maxRecDepth 100000 in
set_option maxHeartbeats 4000000 in
theorem sbX9_text_48 {d : Nat} [zGh] (P : zP d) (j49 : zK d) (hj49 : zSim X_X9_text 36 P 49 j49) : zSim X_X9_text 36 P 48 (bX9_text_48 P j49) := by
  unfold bX9_text_48
  refine sm_iconst (pc := 48) dX9_text_48 zc_i_0 ?_
  exact hj49
noncomputable def cX9_text_44 {d : Nat} (P : zP d) (j49 : zK d) : zK d := (xpI 1 j49)
set_option maxRecDepth 100000 in
set_option maxHeartbeats 4000000 in
theorem scX9_text_44 {d : Nat} [zGh] (P : zP d) (j49 : zK d) (hj49 : zSim X_X9_text 36 P 49 j49) : zSim X_X9_text 36 P 44 (cX9_text_44 P j49) := by
  unfold cX9_text_44
  refine sm_iconst (pc := 44) dX9_text_44 zc_i_1 ?_
  refine sm_goto (pc := 45) (tgt := 49) dX9_text_45 (by decide) ?_
  exact hj49
noncomputable def b_X9_text {d : Nat} (P : zP d) : zK d := (xald 0 (xpI 0 (xpfI 25 48 (xald 0 (xpI 4294967295 (xpfI 25 49 (xald 0 (xpI 0 (xpfI 25 50 (xald 0 (xpI 0 (xpfI 25 53 (xald 0 (xpI 0 (xpfI 25 59 (xald 0 (xpI 0 (xpfI 25 47 (xild 1 (xcS 1 0 0 f_X9_isSlot (xjoin (bX9_text_49 P) (fun j49 => (xjoin (bX9_text_48 P j49) (fun j48 => (xif0 t0eq j48 (xald 0 (xcV 25 1 0 0 f_X9_readsSum (xif0 t0eq j48 (cX9_text_44 P j49)))))))))))))))))))))))))))))
set_option maxRecDepth 100000 in
set_option maxHeartbeats 4000000 in
theorem s_X9_text {d : Nat} [zGh] (P : zP d) : zSim X_X9_text 36 P 0 (b_X9_text P) := by
  unfold b_X9_text
  refine sm_aload_n (pc := 0) (n := 0) dX9_text_0 rfl ?_
  refine sm_iconst (pc := 1) dX9_text_1 zc_i_0 ?_
  refine pf_X9_356 (pc := 2) rfl dX9_text_2 ?_
  refine sm_aload_n (pc := 5) (n := 0) dX9_text_5 rfl ?_
  refine sm_iconst (pc := 6) dX9_text_6 zc_i_m1 ?_
  refine pf_X9_124 (pc := 7) rfl dX9_text_7 ?_
  refine sm_aload_n (pc := 10) (n := 0) dX9_text_10 rfl ?_
  refine sm_iconst (pc := 11) dX9_text_11 zc_i_0 ?_
  refine pf_X9_361 (pc := 12) rfl dX9_text_12 ?_
  refine sm_aload_n (pc := 15) (n := 0) dX9_text_15 rfl ?_
  refine sm_iconst (pc := 16) dX9_text_16 zc_i_0 ?_
  refine pf_X9_359 (pc := 17) rfl dX9_text_17 ?_
  refine sm_aload_n (pc := 20) (n := 0) dX9_text_20 rfl ?_
  refine sm_iconst (pc := 21) dX9_text_21 zc_i_0 ?_
  refine pf_X9_396 (pc := 22) rfl dX9_text_22 ?_
  refine sm_aload_n (pc := 25) (n := 0) dX9_text_25 rfl ?_
  refine sm_iconst (pc := 26) dX9_text_26 zc_i_0 ?_
  refine pf_X9_353 (pc := 27) rfl dX9_text_27 ?_
  refine sm_iload_n (pc := 30) (n := 1) dX9_text_30 rfl ?_
  refine sm_cS (pc := 31) (n := 1) (mc := 0) (ms := 0) m_X9_isSlot (cr_X9_319 (X := X_X9_text) (fr := 36) (frc := 2) (pc := 31) (mc := 0) (ms := 0) rfl (by decide) dX9_text_31) ?_
  refine sm_join (pc := 34) (pc' := 49) (sbX9_text_49 P) (fun j49 hj49 => ?_)
  refine sm_join (pc := 34) (pc' := 48) (sbX9_text_48 P j49 hj49) (fun j48 hj48 => ?_)
  refine sm_if_eq (pc := 34) (tgt := 48) dX9_text_34 (by decide) ?_ ?_
  · skip
    exact hj48
  · skip
    refine sm_aload_n (pc := 37) (n := 0) dX9_text_37 rfl ?_
    refine sm_cV (pc := 38) (ci := 9) (n := 1) (mc := 0) (ms := 0) rfl m_X9_readsSum (cr_X9_399 (X := X_X9_text) (fr := 36) (frc := 35) (pc := 38) (mc := 0) (ms := 0) rfl (by decide) dX9_text_38) ?_
    refine sm_if_eq (pc := 41) (tgt := 48) dX9_text_41 (by decide) ?_ ?_
    · skip
      exact hj48
    · skip
      exact scX9_text_44 P j49 hj49
noncomputable def f_X9_text {d : Nat} : List zV → zH d → zP d → Bool := zfn 4 b_X9_text
theorem m_X9_text {d : Nat} : zMet (d := d) X_X9_text yX9_text 36 f_X9_text := zmet_mk (X := X_X9_text) (by decide) rfl rfl s_X9_text
end
section
/-! more of the static arrays; arraycopy of longs -/
section OPS
variable {d : Nat} {X : zM} {fr : Nat} {P : zP d} {pc : Nat} {k : zK d}
/-- a static array's length -/
theorem sm_stlen [G : zGh] {C nm : String} {tb : List Nat} {index : Nat} (hst1 : ∀ (A : Nat → Prop) (s : State), zStat A s s.heap → zSt1 C nm tb A s s.heap) (hlink : Cond.fieldLink X.1 index C nm "[I" ∈ ztbl) (dg1 : decode X.2.1 pc = .ok (.getstatic index, 3)) (dg2 : decode X.2.1 (pc + 3) = .ok (.arraylength, 1)) (hs : zSim X fr P (pc + 3 + 1) k) : zSim X fr P pc (xpI 7 k) := by
  intro Ch cA D ad0 A MC MS p l e s m args below meth c ls st H locs cells slots L S h Cx hk R0
  obtain ⟨ws, hHp, hpre, hP, hD, hS, hL, hst, hcb, hsb⟩ := R0
  obtain ⟨t, hZ, f, hT, hf⟩ := hst1 A s Cx.2.2.2.2.2.2.2.2.2.2.1
  refine va_gets Cx.1 Cx.2.1 hZ hS Cx.2.2.2.1 (Cx.2.2.2.2.1 _ hlink) (fun _ h => h) dg1 ?_
  refine va_tlen (v := Int32.ofNat 7) Cx.1 Cx.2.1 hT hS rfl dg2 ?_
  exact hs Ch cA D ad0 A MC MS p l e s m args below meth c ls _ H locs cells slots L _ h Cx hk ⟨ws, hHp, hpre, hP, hD, hS, hL, ⟨⟨_, rfl, zIs_e (zi_nI (by decide))⟩, hst⟩, hcb, hsb⟩
/-- a static array's element by the quotient of two locals -/
noncomputable def xst2 (tb : List Nat) (n1 n2 : Nat) (k : zK d) : zK d := fun L S h => znth n1 L (fun v => Sum.rec (motive := fun _ => Bool) (fun a => znth n2 L (fun w => Sum.rec (motive := fun _ => Bool) (fun b => cond (Nat.beq b 0) false (cond (Nat.ble 2147483648 (Nat.lor a b)) false (zF (fun q => ztab tb q (fun w => k L (zI w :: S) h)) (Nat.div a b)))) (fun _ => false) w)) (fun _ => false) v)
theorem sm_st2 [G : zGh] {C nm : String} {tb : List Nat} {n1 n2 index : Nat} {f1 : Fin 4} (htb : tb.length = 7) (hst1 : ∀ (A : Nat → Prop) (s : State), zStat A s s.heap → zSt1 C nm tb A s s.heap) (hlink : Cond.fieldLink X.1 index C nm "[I" ∈ ztbl) (dg1 : decode X.2.1 pc = .ok (.getstatic index, 3)) (dg2 : decode X.2.1 (pc + 3) = .ok (.iload_n f1, 1)) (hf1 : (f1 : Nat) = n1) (dg3 : decode X.2.1 (pc + 3 + 1) = .ok (.iload n2, 2)) (dg4 : decode X.2.1 (pc + 3 + 1 + 2) = .ok (.idiv, 1)) (dg5 : decode X.2.1 (pc + 3 + 1 + 2 + 1) = .ok (.iaload, 1)) (hs : zSim X fr P (pc + 3 + 1 + 2 + 1 + 1) k) : zSim X fr P pc (xst2 tb n1 n2 k) := by
  intro Ch cA D ad0 A MC MS p l e s m args below meth c ls st H locs cells slots L S h Cx hk R0
  obtain ⟨ws, hHp, hpre, hP, hD, hS, hL, hst, hcb, hsb⟩ := R0
  obtain ⟨v, hv, hk2⟩ := znth_t n1 hk
  match v, hv, hk2 with
  | .inl a, hv, hk2 =>
    obtain ⟨w, hw, hk3⟩ := znth_t n2 hk2
    match w, hw, hk3 with
    | .inl b, hw, hk3 =>
      have hk3 : cond (Nat.beq b 0) false (cond (Nat.ble 2147483648 (Nat.lor a b)) false (zF (fun q => ztab tb q (fun w => k L (zI w :: S) h)) (Nat.div a b))) = true := hk3
      cases b1 : Nat.beq b 0
      · cases b2 : Nat.ble 2147483648 (Nat.lor a b)
        · rw [b1, b2, cond_false, cond_false, zF_eq] at hk3
          obtain ⟨x, hx, i, rfl, hi⟩ := zLoc_at hL hv (by intro q; cases q)
          obtain ⟨y, hy, j, rfl, hj⟩ := zLoc_at hL hw (by intro q; cases q)
          obtain ⟨u, hu, hk4⟩ := ztab_t tb _ hk3
          obtain ⟨t, hZ, f, hT, hf⟩ := hst1 A s Cx.2.2.2.2.2.2.2.2.2.2.1
          have ha : Nat.div a b < 7 := by rw [← htb]; exact (List.getElem?_eq_some_iff.mp hu).1
          obtain ⟨q1, q2⟩ := zle31 b2
          have ei := hi.1 (by omega)
          have ej := hj.1 (by omega)
          have hjne : ¬ j = 0 := fun q => by
            rw [q, zi_z] at ej
            rw [← ej] at b1
            cases b1
          have hd : zi (i / j) = Nat.div a b := by rw [zi_div (by omega) (by omega), ei, ej]; rfl
          obtain ⟨g1, g2, g3⟩ := zi_idx (i := i / j) (a := Nat.div a b) (len := 7) (fun _ => hd) (by decide) (zble_lt ha)
          obtain ⟨iv, hfv, hiv⟩ := hf _ u hu
          refine va_gets Cx.1 Cx.2.1 hZ hS Cx.2.2.2.1 (Cx.2.2.2.2.1 _ hlink) (fun _ h => h) dg1 ?_
          refine lv_iload_n Cx.1 Cx.2.1 dg2 hf1 hx ?_
          refine lv_iload Cx.1 Cx.2.1 dg3 hy ?_
          refine lv_idiv Cx.1 Cx.2.1 dg4 hjne ?_
          refine va_ti (v := .int iv) Cx.1 Cx.2.1 hT hS g1 (by rw [g2]; exact hfv) dg5 ?_
          exact hs Ch cA D ad0 A MC MS p l e s m args below meth c ls _ H locs cells slots L _ h Cx hk4 ⟨ws, hHp, hpre, hP, hD, hS, hL, ⟨⟨iv, rfl, zIs_e hiv⟩, hst⟩, hcb, hsb⟩
        · rw [b1, b2] at hk3; cases hk3
      · rw [b1] at hk3; cases hk3
theorem sm_copyJ [G : zGh] {index : Nat} (hlink : Cond.methodLink X.1 index arraycopyName ∈ ztbl) (hnat : Cond.native arraycopyName ∈ ztbl) (hstat : Cond.static arraycopyName ∈ ztbl) (hini : Cond.initialized "java/lang/System" ∈ ztbl) (hfr : 1 ≤ fr) (dg : decode X.2.1 pc = .ok (.invokestatic index, 3)) (hs : zSim X fr P (pc + 3) k) : zSim X fr P pc (xcpy 2 72 k) := by
  intro Ch cA D ad0 A MC MS p l e s m args below meth c ls st H locs cells slots L S h Cx hk R0
  obtain ⟨ws, hHp, hpre, hP, hD, hS, hL, hst, hcb, hsb⟩ := R0
  obtain ⟨n, S, rfl, hk1⟩ := zpI_t hk
  obtain ⟨dp, S, rfl, hk2⟩ := zpI_t hk1
  obtain ⟨r1, S, rfl, hk3⟩ := zpR_t hk2
  obtain ⟨sp, S, rfl, hk4⟩ := zpI_t hk3
  obtain ⟨r0, S, rfl, hk5⟩ := zpR_t hk4
  obtain ⟨jn, st, rfl, hn, hst1⟩ := zRepL_I hst
  obtain ⟨jd, st, rfl, hdp, hst2⟩ := zRepL_I hst1
  obtain ⟨o1, st, rfl, ho1, hst3⟩ := zRepL_R hst2
  obtain ⟨js, st, rfl, hsp, hst4⟩ := zRepL_I hst3
  obtain ⟨o0, st, rfl, ho0, hst5⟩ := zRepL_R hst4
  obtain ⟨h4, hk6⟩ := zle4_t hk5
  have hk6 : cond (Nat.ble n 100000) (cond (Nat.ble dp 100000) (cond (Nat.ble sp 100000) (zat h r0 (fun _ _ _ kd0 len0 x0 => zat h r1 (fun t u j kd1 len1 x1 => cond (Nat.beq kd0 2) (cond (Nat.beq kd1 2) (cond (Nat.ble (Nat.add sp n) len0) (cond (Nat.ble (Nat.add dp n) len1) (zF (fun y => zsetK d t j (kd1, len1, y) (fun t => k L S (t, u))) (zcp 72 x0 x1 sp dp n)) false) false) false) false))) false) false) false = true := hk6
  cases b1 : Nat.ble n 100000
  · rw [b1] at hk6; cases hk6
  cases b2 : Nat.ble dp 100000
  · rw [b1, b2] at hk6; cases hk6
  cases b3 : Nat.ble sp 100000
  · rw [b1, b2, b3] at hk6; cases hk6
  rw [b1, b2, b3, cond_true, cond_true, cond_true] at hk6
  obtain ⟨i0, kd0, len0, x0, rfl, hg0, hk7⟩ := zat_t hk6
  obtain ⟨i1, kd1, len1, x1, rfl, hg1, hk8⟩ := zat_t hk7
  have hk9 : cond (Nat.beq kd0 2) (cond (Nat.beq kd1 2) (cond (Nat.ble (Nat.add sp n) len0) (cond (Nat.ble (Nat.add dp n) len1) (zF (fun y => zsetK d h.1 i1 (kd1, len1, y) (fun t => k L S (t, h.2))) (zcp 72 x0 x1 sp dp n)) false) false) false) false = true := hk8
  cases b4 : Nat.beq kd0 2
  · rw [b4] at hk9; cases hk9
  cases b5 : Nat.beq kd1 2
  · rw [b4, b5] at hk9; cases hk9
  cases b6 : Nat.ble (Nat.add sp n) len0
  · rw [b4, b5, b6] at hk9; cases hk9
  cases b7 : Nat.ble (Nat.add dp n) len1
  · rw [b4, b5, b6, b7] at hk9; cases hk9
  rw [b4, b5, b6, b7, cond_true, cond_true, cond_true, cond_true, zF_eq, zsetK_eq] at hk9
  have e0 := Nat.eq_of_beq_eq_true b4
  have e1 := Nat.eq_of_beq_eq_true b5
  subst e0
  subst e1
  obtain ⟨a0, en0, rfl, hw0, hc0⟩ := zat_w hHp ho0
  obtain ⟨a1, en1, rfl, hw1, hc1⟩ := zat_w hHp ho1
  rw [hg0] at hc0
  rw [hg1] at hc1
  obtain ⟨hl0, f0, rfl, hf0⟩ := zCell_j hc0
  obtain ⟨hl1, f1, rfl, hf1⟩ := zCell_j hc1
  obtain ⟨n1, n2⟩ := zi_len hn.1 (Nat.le_of_ble_eq_true b1)
  obtain ⟨d1, d2⟩ := zi_len hdp.1 (Nat.le_of_ble_eq_true b2)
  obtain ⟨s1, s2⟩ := zi_len hsp.1 (Nat.le_of_ble_eq_true b3)
  have hle0 : sp + n ≤ len0 := Nat.le_of_ble_eq_true b6
  have hle1 : dp + n ≤ len1 := Nat.le_of_ble_eq_true b7
  have hcat := zcat hst5
  refine va_copyl (ty := .long) Cx.1 Cx.2.1 (by rw [Cx.2.2.1]; exact hL.2.choose_spec.1.1.symm) Cx.2.2.2.1 (Cx.2.2.2.2.1 _ hlink) (Cx.2.2.2.2.1 _ hnat) (Cx.2.2.2.2.1 _ hstat) (Cx.2.2.2.2.1 _ hini) Cx.2.2.2.2.2.1 hP hD hS i0 i1 2 2 hw0 hw1 rfl rfl rfl s1 d1 n1 (by rw [s2, n2]; exact hle0) (by rw [d2, n2]; exact hle1) (fun _ _ => rfl) hfr (by show (st.map fun v => v.category).sum + (nativeFrameWords "java/lang/System" "arraycopy" 5 + 11) ≤ 64 * fr; rw [znfw]; omega) dg (fun H1 locs1 hP1 hD1 hS1 => ?_)
  have hz := zad_set (cA := cA) (e' := .inl (cA 2, len1, .inr (.inl (va_cpy f0 f1 js.toNatClampNeg jd.toNatClampNeg jn.toNatClampNeg)))) hw1
  refine hs Ch cA D ad0 A MC MS p l e s m args below meth c ls _ H1 locs1 cells slots L _ _ Cx hk9 ⟨_, zHp_set hHp hw1 (zCell_jk hl1 (fun j hj => ?_)), by rw [hz]; exact hpre, hP1, hD1, hS1, by rw [hz]; exact hL, by rw [hz]; exact hst5, hcb, hsb⟩
  rw [zcp_wd]
  rw [s2, d2, n2]
  unfold va_cpy
  by_cases q : dp ≤ j ∧ j < dp + n
  · rw [if_pos q, if_pos q]
    exact hf0 _ (by omega)
  · rw [if_neg q, if_neg q]
    exact hf1 _ hj
end OPS
end
section
/-! a row into an array of rows -/
theorem zcompI {s : State} {cA : Nat → ClassId} {D : va_G} (hK : va_K D zcl (zty cA) s) (hE : va_AOA .int s) : ∃ kA : Class, s.vm.classes[cA 3]? = some kA ∧ kA.kind = .array (cA 0) (.array .int) := by
  obtain ⟨comp, c, k, h1, -, h3, h4, h5⟩ := Jvm.Stand.arrayOver_specB hE
  have e1 : s.vm.findClass ("[" ++ (FieldType.array .int).toString) = some (cA 3) := (hK.2 3 _ rfl).2
  have e0 : s.vm.findClass ("[" ++ FieldType.int.toString) = some (cA 0) := (hK.2 0 _ rfl).2
  have ec : c = cA 3 := Option.some.inj (h5.symm.trans e1)
  have e2 : (FieldType.array .int).toString = "[" ++ FieldType.int.toString := rfl
  rw [e2] at h1
  have ek : comp = cA 0 := Option.some.inj (h1.symm.trans e0)
  subst ec
  subst ek
  exact ⟨k, h3, h4⟩
section OPS
variable {d : Nat} {X : zM} {fr : Nat} {P : zP d} {pc : Nat} {k : zK d}
theorem sm_aastoreI [G : zGh] (dg : decode X.2.1 pc = .ok (.aastore, 1)) (hs : zSim X fr P (pc + 1) k) : zSim X fr P pc (xaas 3 0 k) := by
  intro Ch cA D ad0 A MC MS p l e s m args below meth c ls st H locs cells slots L S h Cx hk R0
  obtain ⟨ws, hHp, hpre, hP, hD, hS, hL, hst, hcb, hsb⟩ := R0
  obtain ⟨v, S, rfl, hk0⟩ := zpR_t hk
  obtain ⟨n, S, rfl, hk1⟩ := zpI_t hk0
  obtain ⟨r, S, rfl, hk2⟩ := zpR_t hk1
  obtain ⟨y, st, rfl, hy, hst0⟩ := zRepL_R hst
  obtain ⟨i, st, rfl, hi, hst1⟩ := zRepL_I hst0
  obtain ⟨o, st, rfl, ho, hst2⟩ := zRepL_R hst1
  obtain ⟨jv, kv, lenv, xv, rfl, hgv, hk3⟩ := zat_t hk2
  have hq3 : cond (Nat.beq kv 0) (zat h r (fun t u j kd len x => cond (Nat.beq kd 3) (cond (Nat.ble len n) false (cond (Nat.ble 549755813888 (jv + 1)) false (zF (fun y => zsetK d t j (kd, len, y) (fun t => k L S (t, u))) (zup 40 x n (jv + 1))))) false)) false = true := hk3
  cases hbv : Nat.beq kv 0
  · rw [hbv] at hq3
    cases hq3
  · rw [hbv, cond_true] at hq3
    obtain ⟨av, ev, rfl, hwv, hcv⟩ := zat_w hHp hy
    rw [hgv] at hcv
    have ekv := Nat.eq_of_beq_eq_true hbv
    subst ekv
    obtain ⟨hlv, fv, rfl, -⟩ := zCell_i hcv (by decide)
    obtain ⟨j, kd, len, x, rfl, hgt, hk4⟩ := zat_t hq3
    obtain ⟨a, en, rfl, hwi, hcell⟩ := zat_w hHp ho
    rw [hgt] at hcell
    have hk5 : cond (Nat.beq kd 3) (cond (Nat.ble len n) false (cond (Nat.ble 549755813888 (jv + 1)) false (zF (fun y => zsetK d h.1 j (kd, len, y) (fun t => k L S (t, h.2))) (zup 40 x n (jv + 1))))) false = true := hk4
    cases hb : Nat.beq kd 3
    · rw [hb] at hk5
      cases hk5
    · cases hbl : Nat.ble len n
      · cases hbw : Nat.ble 549755813888 (jv + 1)
        · rw [hb, hbl, hbw, cond_true, cond_false, cond_false, zF_eq, zsetK_eq] at hk5
          have hb2 := Nat.eq_of_beq_eq_true hb
          subst hb2
          obtain ⟨hlen, f, rfl, hf⟩ := zCell_r hcell (by decide) (by decide)
          obtain ⟨g1, g2, g3⟩ := zi_idx hi.1 hlen hbl
          obtain ⟨kA, k1, k2⟩ := zcompI Cx.2.2.2.2.2.1 Cx.2.2.2.2.2.2.2.2.2.2.2.2.2.2.1
          obtain ⟨kC, hkC⟩ : ∃ kC : Class, s.vm.classes[cA 0]? = some kC := by
            obtain ⟨-, kk, hkk, -⟩ := (Cx.2.2.2.2.2.1.2 0 _ rfl).1 0 (fun _ => .null)
            exact ⟨kk, hkk⟩
          have h0 : ¬ i < 0 := fun q => g1 (Or.inl q)
          have hlt : i.toNatClampNeg < len := by rw [g2]; exact g3
          refine W.aast Cx.1 Cx.2.1 (hP j _ hwi) (fun q h => by cases h) (fun h => by cases h) k1 k2 rfl hkC ⟨h0, by show _ < (arrV _ _ _).slots.size; rw [arrV_size]; exact hlt⟩ (hP jv _ hwv) (fun q h => by cases h) hkC (va_asg s.vm (cA 0)) rfl rfl dg fun H1 e1 z oq => ?_
          have hP1 : va_P D zcl (ws.set j (a, .inl (cA 3, len, .inr (.inr (.inr (.inr (va_up f i.toNatClampNeg (some av)))))))) H1 := by
            refine hP.set hD hwi ?_ oq
            show H1[a]? = some (vp_cell _ _)
            rw [e1]
            rw [vp_cell_q, vp_cell_q, arrV_store]
            congr 2
            funext q
            by_cases hq : q = i.toNatClampNeg
            · subst hq
              simp [updV, va_up, va_rf]
            · simp [updV, va_up, hq]
          have hz := zad_set (cA := cA) (e' := .inl (cA 3, len, .inr (.inr (.inr (.inr (va_up f i.toNatClampNeg (some av))))))) hwi
          exact hs Ch cA D ad0 A MC MS p l e s m args below meth c ls _ H1 _ cells slots L _ _ Cx hk5 ⟨_, zHp_set hHp hwi (zCell_rk (by decide) (by decide) hlen (by rw [g2]; exact zAR_up (zble_f hbw) hf hy)), by rw [hz]; exact hpre, hP1, hD.set hwi, hS.put z oq (hD.2 j _ hwi), by rw [hz]; exact hL, by rw [hz]; exact hst2, hcb, hsb⟩
        · rw [hb, hbl, hbw] at hk5
          cases hk5
      · rw [hb, hbl] at hk5
        cases hk5
end OPS
end
section
/-! clone of an int array, and its cast -/
section OPS
variable {d : Nat} {X : zM} {fr : Nat} {P : zP d} {pc : Nat} {k : zK d}
noncomputable def xcln (k : zK d) : zK d := fun L S h => zpR S (fun r S => zat h r (fun _ _ _ kd len x => cond (Nat.beq kd 0) (zle4 S (zmk h len (0, len, x) (fun r h => k L (zR r :: S) h))) false))
theorem sm_clone [G : zGh] {index : Nat} (hlink : Cond.methodLink X.1 index ⟨"[I", "clone", "()Ljava/lang/Object;"⟩ ∈ ztbl) (hsame : Cond.sameMethod "[I" "java/lang/Object" "clone" "()Ljava/lang/Object;" ∈ ztbl) (hnat : Cond.native ⟨"java/lang/Object", "clone", "()Ljava/lang/Object;"⟩ ∈ ztbl) (hinst : Cond.instanceMethod ⟨"java/lang/Object", "clone", "()Ljava/lang/Object;"⟩ ∈ ztbl) (hsel : Cond.selects "[I" ⟨"[I", "clone", "()Ljava/lang/Object;"⟩ ⟨"java/lang/Object", "clone", "()Ljava/lang/Object;"⟩ ∈ ztbl) (hfr : 1 ≤ fr) (dg : decode X.2.1 pc = .ok (.invokevirtual index, 3)) (hs : zSim X fr P (pc + 3) k) : zSim X fr P pc (xcln k) := by
  intro Ch cA D ad0 A MC MS p l e s m args below meth c ls st H locs cells slots L S h Cx hk R0
  obtain ⟨ws, hHp, hpre, hP, hD, hS, hL, hst, hcb, hsb⟩ := R0
  obtain ⟨r, S, rfl, hk1⟩ := zpR_t hk
  obtain ⟨o, st, rfl, ho, hst2⟩ := zRepL_R hst
  obtain ⟨i, kd, len, x, rfl, hg, hk2⟩ := zat_t hk1
  obtain ⟨a, en, rfl, hwi, hcell⟩ := zat_w hHp ho
  rw [hg] at hcell
  have hq2 : cond (Nat.beq kd 0) (zle4 S (zmk h len (0, len, x) (fun r h => k L (zR r :: S) h))) false = true := hk2
  cases hb : Nat.beq kd 0
  · rw [hb] at hq2; cases hq2
  · rw [hb, cond_true] at hq2
    have e0 := Nat.eq_of_beq_eq_true hb
    subst e0
    obtain ⟨h4, hq3⟩ := zle4_t hq2
    obtain ⟨h1, h2, h3, hq4⟩ := zmk_t hq3
    obtain ⟨hlen, f, rfl, hf⟩ := zCell_i hcell (by decide)
    have hcat := zcat hst2
    refine va_clone (ad := "[I") (ty := .int) (x := (len, .inl f)) Cx.1 Cx.2.1 (by rw [Cx.2.2.1]; exact hL.2.choose_spec.1.1.symm) Cx.2.2.2.1 (Cx.2.2.2.2.1 _ hlink) (Cx.2.2.2.2.1 _ hsame) (Cx.2.2.2.2.1 _ hnat) (Cx.2.2.2.2.1 _ hinst) (Cx.2.2.2.2.1 _ hsel) Cx.2.2.2.2.2.2.2.2.2.2.2.2.2.2.2.2.2 Cx.2.2.2.2.2.1 hP hD hS Cx.2.2.2.2.2.2.1 i 0 hwi rfl (Cx.2.2.2.2.2.1.2 0 _ rfl).2 (fun j v hv => ?_) hfr (by show (st.map fun v => v.category).sum + 14 ≤ 64 * fr; omega) (by show cells + 1 ≤ MC; omega) (by show slots + len ≤ MS; omega) dg (fun q H1 _ hP1 hD1 hS1 => ?_)
    · have hv : (arrV (cA 0) len (fun j => .int (f j))).slots[j]? = some v := hv
      have hj : j < len := by
        have := (Array.getElem?_eq_some_iff.mp hv).1
        rw [arrV_size] at this
        exact this
      rw [arrV_read _ _ hj] at hv
      cases hv
      rfl
    · have hp := zPre_push (cA := cA) ws q (.inl (cA 0, len, .inl f))
      exact hs Ch cA D ad0 A MC MS p l e s m args below meth c ls _ H1 locs _ _ L _ _ Cx hq4 ⟨_, zHp_push hHp h3 (zCell_ik (by decide) hlen hf), zPre_trans hpre hp, hP1, hD1, hS1, zLoc_mono hp hL, ⟨⟨some q, rfl, Or.inr ⟨h.2.1, q, rfl, zad_new hHp.1, rfl⟩⟩, zRepL_mono hp hst2⟩, by show cells + 1 + (h.2.2.1 - 1) ≤ MC; omega, by show slots + len + (h.2.2.2 - len) ≤ MS; omega⟩
noncomputable def xcast (k : zK d) : zK d := fun L S h => zpR S (fun r S => zat h r (fun _ _ _ kd _ _ => cond (Nat.beq kd 0) (k L (zR r :: S) h) false))
theorem sm_castI [G : zGh] {index : Nat} (hlink : Cond.classLink X.1 index "[I" ∈ ztbl) (dg : decode X.2.1 pc = .ok (.checkcast index, 3)) (hs : zSim X fr P (pc + 3) k) : zSim X fr P pc (xcast k) := by
  intro Ch cA D ad0 A MC MS p l e s m args below meth c ls st H locs cells slots L S h Cx hk R0
  obtain ⟨ws, hHp, hpre, hP, hD, hS, hL, hst, hcb, hsb⟩ := R0
  obtain ⟨r, S, rfl, hk1⟩ := zpR_t hk
  obtain ⟨o, st, rfl, ho, hst2⟩ := zRepL_R hst
  obtain ⟨i, kd, len, x, rfl, hg, hk2⟩ := zat_t hk1
  obtain ⟨a, en, rfl, hwi, hcell⟩ := zat_w hHp ho
  rw [hg] at hcell
  have hq2 : cond (Nat.beq kd 0) (k L (zR (i + 1) :: S) h) false = true := hk2
  cases hb : Nat.beq kd 0
  · rw [hb] at hq2; cases hq2
  · rw [hb, cond_true] at hq2
    have e0 := Nat.eq_of_beq_eq_true hb
    subst e0
    obtain ⟨hlen, f, rfl, hf⟩ := zCell_i hcell (by decide)
    exact va_castA Cx.1 Cx.2.1 Cx.2.2.2.1 (Cx.2.2.2.2.1 _ hlink) hP i hwi (Cx.2.2.2.2.2.1.2 0 _ rfl).2 dg (hs Ch cA D ad0 A MC MS p l e s m args below meth c ls _ H locs cells slots L _ h Cx hq2 ⟨ws, hHp, hpre, hP, hD, hS, hL, hst, hcb, hsb⟩)
end OPS
end
section
/-! Math.floorMod; a switch by keys; arrays of arrays where the tree isn't too deep -/
theorem zxor_hi {a b : Nat} (ha : 2147483648 ≤ a) (ha2 : a < 4294967296) (hb : b < 2147483648) : 2147483648 ≤ Nat.xor a b := by
  have h1 : (a ^^^ b).testBit 31 = true := by
    rw [Nat.testBit_xor, Nat.testBit_lt_two_pow (show b < 2 ^ 31 by omega)]
    have : a.testBit 31 = true := by
      rw [Nat.testBit_eq_decide_div_mod_eq]
      exact decide_eq_true (by have : a / 2 ^ 31 = 1 := by omega
                               rw [this])
    rw [this]
    rfl
  exact Nat.ge_two_pow_of_testBit h1
theorem zxor_lo {a b : Nat} (ha : a < 2147483648) (hb : b < 2147483648) : Nat.xor a b < 2147483648 := Nat.xor_lt_two_pow (n := 31) ha hb
theorem zi_ge {x : Int32} : 0 ≤ x ↔ zi x < 2147483648 := by
  rw [Int32.le_iff_toInt_le]
  have h0 : (0 : Int32).toInt = 0 := rfl
  rw [h0]
  have := zi_lt x
  rcases zi_cases x with ⟨c1, c2⟩ | ⟨c1, c2⟩ <;> omega
/-- a rest that isn't below 0, of a number and a known one above 0 -/
def zfmod (a b : Nat) : Nat := cond (Nat.ble 4294967296 a) 4294967296 (cond (Nat.ble 2147483648 a) (Nat.mod (Nat.sub b (Nat.mod (Nat.sub 4294967296 a) b)) b) (Nat.mod a b))
theorem zremI {x y : Int32} (hx : 2147483648 ≤ zi x) (hy : zi y < 2147483648) (hy0 : 0 < zi y) : zi (x - x / y * y) = (4294967296 - (4294967296 - zi x) % zi y) % 4294967296 := by
  have hxl := zi_lt x
  have hq : (x / y).toInt = -(((4294967296 - zi x) / zi y : Nat) : Int) := by
    have hyi : y.toInt = (zi y : Int) := by rcases zi_cases y with ⟨c1, c2⟩ | ⟨c1, c2⟩ <;> omega
    have hxi : x.toInt = -((4294967296 - zi x : Nat) : Int) := by rcases zi_cases x with ⟨c1, c2⟩ | ⟨c1, c2⟩ <;> omega
    rw [Int32.toInt_div, hyi, hxi, Int.neg_tdiv, ← Int.ofNat_tdiv]
    have hle : (4294967296 - zi x) / zi y ≤ 2147483648 := Nat.le_trans (Nat.div_le_self _ _) (by omega)
    generalize (4294967296 - zi x) / zi y = q at hle ⊢
    apply Int.bmod_eq_of_le
    · show -(((4294967296 : Int)) / 2) ≤ _
      omega
    · show _ < ((4294967296 : Int) + 1) / 2
      omega
  have hz : zi (x / y) = (4294967296 - (4294967296 - zi x) / zi y) % 4294967296 := by
    have := zi_lt (x / y)
    have hle : (4294967296 - zi x) / zi y ≤ 2147483648 := Nat.le_trans (Nat.div_le_self _ _) (by omega)
    rcases zi_cases (x / y) with ⟨c1, c2⟩ | ⟨c1, c2⟩ <;> omega
  rw [zi_sub, zi_mul, hz]
  generalize hA : 4294967296 - zi x = A at *
  have e1 := Nat.mod_add_div A (zi y)
  have hqle : A / zi y * zi y ≤ A := Nat.div_mul_le_self A (zi y)
  rw [Nat.mul_comm] at e1
  generalize A / zi y = q at *
  generalize hm : q * zi y = m at *
  have hA0 : 0 < A := by omega
  have hA1 : A ≤ 2147483648 := by omega
  have hmod := Nat.mod_lt A hy0
  have hkey : (4294967296 - q) % 4294967296 * zi y % 4294967296 = (4294967296 - m) % 4294967296 := by
    by_cases h0 : q = 0
    · subst h0
      have : m = 0 := by rw [← hm, Nat.zero_mul]
      subst this
      simp
    · have hq1 : q ≤ A := by rw [← hm] at hqle; exact Nat.le_trans (Nat.le_mul_of_pos_right q hy0) hqle
      rw [Nat.mod_eq_of_lt (show 4294967296 - q < 4294967296 by omega), Nat.sub_mul, hm]
      have : 4294967296 * zi y - m = (4294967296 - m) + 4294967296 * (zi y - 1) := by
        have h5 : 4294967296 * zi y = 4294967296 * (zi y - 1) + 4294967296 := by omega
        omega
      rw [this, Nat.add_mul_mod_self_left]
  rw [hkey]
  omega
theorem zfmod_ok {a b : Nat} {x y : Int32} (hx : a < 4294967296 → zi x = a) (hy : zi y = b) (hb : 0 < b) (hb2 : b < 2147483648) : zfmod a b < 4294967296 → zi (Jvm.Free.MCB.fmod x y) = zfmod a b := by
  unfold zfmod
  cases hA : Nat.ble 4294967296 a
  · intro _
    have e := hx (zble_f hA)
    rw [cond_false]
    have hne : ¬ y = 0 := fun q => by rw [q, zi_z] at hy; omega
    unfold Jvm.Free.MCB.fmod Jvm.Free.MCB.remI
    cases hB : Nat.ble 2147483648 a
    · have ha := zble_f hB
      rw [cond_false, if_pos (zi_ge.mpr (by rw [zi_xor, e, hy]; exact zxor_lo ha hb2))]
      have := zrem_ok (a := a) (b := b) hx (fun _ => hy)
      unfold zrem at this
      have hl : Nat.ble 2147483648 (Nat.lor a b) = false := by
        cases h : Nat.ble 2147483648 (Nat.lor a b)
        · rfl
        · exact absurd (Nat.le_of_ble_eq_true h) (Nat.not_le.mpr (Nat.or_lt_two_pow (n := 31) ha hb2))
      rw [hl, cond_false] at this
      exact this (Nat.lt_trans (Nat.mod_lt _ hb) (by omega))
    · have ha := Nat.le_of_ble_eq_true hB
      rw [cond_true, if_neg (fun q => absurd (zi_ge.mp q) (by rw [zi_xor, e, hy]; exact Nat.not_lt.mpr (zxor_hi ha (zble_f hA) hb2)))]
      have hr := zremI (x := x) (y := y) (by omega) (by omega) (by omega)
      rw [e, hy] at hr
      have hm := Nat.mod_lt (4294967296 - a) hb
      show _ = (b - (4294967296 - a) % b) % b
      generalize (4294967296 - a) % b = r at *
      by_cases h0 : r = 0
      · subst h0
        have hz : zi (x - x / y * y) = 0 := by rw [hr]
        rw [if_pos (zi_zero.mp hz), hz]
        simp
      · have hz : zi (x - x / y * y) = 4294967296 - r := by rw [hr]; omega
        rw [if_neg (fun q => by rw [q, zi_z] at hz; omega), zi_add, hz, hy]
        rw [Nat.mod_eq_of_lt (show b - r < b by omega)]
        omega
  · intro q
    exact absurd q (Nat.lt_irrefl _)
theorem zfmod_le {a b : Nat} (hb : 0 < b) (hb2 : b < 2147483648) : zfmod a b ≤ 4294967296 := by
  unfold zfmod
  cases Nat.ble 4294967296 a
  · cases Nat.ble 2147483648 a
    · exact Nat.le_trans (Nat.le_of_lt (Nat.mod_lt _ hb)) (by omega)
    · exact Nat.le_trans (Nat.le_of_lt (Nat.mod_lt _ hb)) (by omega)
  · exact Nat.le_refl _
section FM
variable {p : Program} {l : Launch} {e : Env} {R : Room} {s : State} {m : MethodId} {args : Array Value} {below : List Frame} {meth : Method} {c : Code} {H : Heap} {locs : List Loc} {cells slots : Nat} {Q : State → Prop}
variable {pc : Nat} {ls : Array Slot} {rest : List Value}
theorem zfm {cc : ByteArray} (hexec : p.tables.exec = Jvm.exec) (hb : c.code = cc) (hml : c.maxLocals = ls.size) {own : String} {index : Nat} (hown : s.vm.findClass own = some m.cls) (hlink : (Cond.methodLink own index Jvm.Free.MCB.FloorMod.yN).before args s = true) (hstat : (Cond.static Jvm.Free.MCB.FloorMod.yN).before args s = true) (hini : (Cond.initialized "java/lang/Math").before args s = true) (hcode : Jvm.Free.MCB.FloorMod.tab.before args s = true)
    (hframes : 1 ≤ R.frames) (hlocals : (rest.map fun v => v.category).sum + 14 ≤ R.locals) (hc : cells ≤ R.cells) (hs : slots ≤ R.slots) {x y : Int32} (hy : y ≠ 0) (hdg : decode cc pc = .ok (.invokestatic index, 3))
    (kk : W p l e R s m args below meth c H locs cells slots Q (F0 m (pc + 3) ls (.int (Jvm.Free.MCB.fmod x y) :: rest))) : W p l e R s m args below meth c H locs cells slots Q (F0 m pc ls (.int y :: .int x :: rest)) := by
  intro T hT X
  obtain ⟨mF, hnF⟩ := Cond.code_named hcode
  obtain ⟨methF, cF, hmF, -, -, -, -, -, -, hsF⟩ := Cond.code_spec hnF hcode
  obtain ⟨r3, vm3, ⟨T3, L3, c3, n3⟩, hW3, X3, ⟨⟨hh3, hL3, hc3, hn3⟩, hv3⟩, st⟩ := X.staticBack hexec (own := own) (index := index) (y := Jvm.Free.MCB.FloorMod.yN) hown hlink hstat hini hnF hmF hsF (by decide)
    (Jvm.Free.MCB.FloorMod.pays (len := 3) (W := (rest.map fun v => v.category).sum) (by omega) (by omega) hcode hini)
    (g := F0 m pc ls (.int y :: .int x :: rest)) rfl (by rw [hml]) (Steps.refl _) (argsL := [.int x, .int y]) (rest := rest)
    (fun sig hs => by rw [show parseMethodDescriptor Jvm.Free.MCB.FloorMod.yN.desc = some ⟨[.int, .int], some .int⟩ from by decide +kernel] at hs; rw [← Option.some.inj hs]; rfl) rfl (by show 2 * 0 + _ ≤ _; omega) (by rw [hb]; exact hdg)
    (fun vmx hWx => ⟨hc, hs, (x, y), rfl, hy⟩)
  have hr3 := hv3 (x, y) ⟨rfl, hy⟩
  dsimp only [Pt.U, Pt.locs, Pt.cells, Pt.slots] at X3 hh3 hL3 hc3 hn3 hr3 st
  subst hr3 hL3 hc3 hn3
  obtain ⟨t, a1, b1⟩ := kk T3 (hh3.trans hT) X3
  exact ⟨t, st.trans a1, b1⟩
end FM
def zlk (pc : Nat) : List (Int × Int) → List (Nat × Nat) → Bool
  | [], [] => true
  | (k, o) :: ps, (n, t) :: ts => decide (k = (n : Int)) && decide (n < 2147483648) && decide ((pc : Int) + o = (t : Int)) && zlk pc ps ts
  | _, _ => false
section OPS
variable {d : Nat} {X : zM} {fr : Nat} {P : zP d} {pc : Nat} {k : zK d}
noncomputable def xfm (k : zK d) : zK d := fun L S h => zpI S (fun b S => zpI S (fun a S => zle4 S (cond (Nat.beq b 0) false (cond (Nat.ble 2147483648 b) false (zF (fun v => k L (zI v :: S) h) (zfmod a b))))))
theorem sm_fm [G : zGh] {index : Nat} (hlink : Cond.methodLink X.1 index Jvm.Free.MCB.FloorMod.yN ∈ ztbl) (hstat : Cond.static Jvm.Free.MCB.FloorMod.yN ∈ ztbl) (hini : Cond.initialized "java/lang/Math" ∈ ztbl) (hcode : Jvm.Free.MCB.FloorMod.tab ∈ ztbl) (hfr : 1 ≤ fr) (dg : decode X.2.1 pc = .ok (.invokestatic index, 3)) (hs : zSim X fr P (pc + 3) k) : zSim X fr P pc (xfm k) := by
  intro Ch cA D ad0 A MC MS p l e s m args below meth c ls st H locs cells slots L S h Cx hk R0
  obtain ⟨ws, hHp, hpre, hP, hD, hS, hL, hst, hcb, hsb⟩ := R0
  obtain ⟨b, S, rfl, hk1⟩ := zpI_t hk
  obtain ⟨a, S, rfl, hk2⟩ := zpI_t hk1
  obtain ⟨y, st, rfl, hy, hst1⟩ := zRepL_I hst
  obtain ⟨x, st, rfl, hx, hst2⟩ := zRepL_I hst1
  obtain ⟨h4, hk3⟩ := zle4_t hk2
  have hk3 : cond (Nat.beq b 0) false (cond (Nat.ble 2147483648 b) false (zF (fun v => k L (zI v :: S) h) (zfmod a b))) = true := hk3
  have hcat := zcat hst2
  cases h1 : Nat.beq b 0
  · cases h2 : Nat.ble 2147483648 b
    · rw [h1, h2, cond_false, cond_false, zF_eq] at hk3
      have hb2 := zble_f h2
      have hb0 : 0 < b := Nat.pos_of_ne_zero (fun q => by rw [q] at h1; cases h1)
      have hyb := hy.1 (by omega)
      exact zfm Cx.1 Cx.2.1 (by rw [Cx.2.2.1]; exact hL.2.choose_spec.1.1.symm) Cx.2.2.2.1 (Cx.2.2.2.2.1 _ hlink) (Cx.2.2.2.2.1 _ hstat) (Cx.2.2.2.2.1 _ hini) (Cx.2.2.2.2.1 _ hcode) hfr (by show (st.map fun v => v.category).sum + 14 ≤ 64 * fr; omega) (by show cells ≤ MC; omega) (by show slots ≤ MS; omega) (fun q => by rw [q, zi_z] at hyb; omega) dg (hs Ch cA D ad0 A MC MS p l e s m args below meth c ls _ H locs cells slots L _ h Cx hk3 ⟨ws, hHp, hpre, hP, hD, hS, hL, ⟨⟨_, rfl, zIs_of (zfmod_ok hx.1 hyb hb0 hb2) (zfmod_le hb0 hb2)⟩, hst2⟩, hcb, hsb⟩)
    · rw [h1, h2] at hk3
      cases hk3
  · rw [h1] at hk3
    cases hk3
noncomputable def zls (a : Nat) (kd : Bool) (L S : List zV) (h : zH d) : List (Nat × zK d) → Bool := List.rec (motive := fun _ => Bool) kd (fun q _ r => cond (Nat.beq a q.1) (q.2 L S h) r)
noncomputable def xlsw (ks : List (Nat × zK d)) (kd : zK d) : zK d := fun L S h => zpI S (fun a S => cond (Nat.ble 4294967296 a) false (zls a (kd L S h) L S h ks))
theorem zls_t [G : zGh] {x : Int32} {a tdf : Nat} {dflt : Int} {kd : zK d} {L S : List zV} {h : zH d} (hx : zi x = a) (hdf : (pc : Int) + dflt = (tdf : Int)) (hkd : zSim X fr P tdf kd) : ∀ (ps : List (Int × Int)) (ts : List (Nat × Nat)) (ks : List (Nat × zK d)), zlk pc ps ts = true → ks.map (fun q => q.1) = ts.map (fun q => q.1) → (∀ (i n t : Nat) (k : zK d), ts[i]? = some (n, t) → ks[i]? = some (n, k) → zSim X fr P t k) → zls a (kd L S h) L S h ks = true → ∃ (tgt : Nat) (k : zK d), (pc : Int) + Op.lookupswitch.offset ps dflt x.toInt = (tgt : Int) ∧ zSim X fr P tgt k ∧ k L S h = true
  | [], [], [], _, _, _, hk => ⟨tdf, kd, hdf, hkd, hk⟩
  | [], [], _ :: _, _, h2, _, _ => by cases h2
  | (kq, o) :: ps, (n, t) :: ts, [], _, h2, _, _ => by cases h2
  | (kq, o) :: ps, (n, t) :: ts, (n', k') :: ks, h1, h2, h3, hk => by
    rw [List.map_cons, List.map_cons, List.cons.injEq] at h2
    obtain ⟨hn, h2⟩ := h2
    have hn : n' = n := hn
    subst hn
    unfold zlk at h1
    rw [Bool.and_eq_true, Bool.and_eq_true, Bool.and_eq_true, decide_eq_true_iff, decide_eq_true_iff, decide_eq_true_iff] at h1
    obtain ⟨⟨⟨e1, e2⟩, e3⟩, e4⟩ := h1
    have hk : cond (Nat.beq a n') (k' L S h) (zls a (kd L S h) L S h ks) = true := hk
    have hxc := zi_cases x
    have hxl := zi_lt x
    cases hb : Nat.beq a n'
    · rw [hb, cond_false] at hk
      have hne : ¬ a = n' := fun q => by rw [q, Nat.beq_refl] at hb; cases hb
      obtain ⟨tgt, k, g1, g2, g3⟩ := zls_t hx hdf hkd ps ts ks e4 h2 (fun i n t k q1 q2 => h3 (i + 1) n t k (by simpa using q1) (by simpa using q2)) hk
      refine ⟨tgt, k, ?_, g2, g3⟩
      unfold Op.lookupswitch.offset
      rw [if_neg (by rw [e1]; rcases hxc with ⟨c1, c2⟩ | ⟨c1, c2⟩ <;> omega)]
      exact g1
    · rw [hb, cond_true] at hk
      have he : a = n' := Nat.eq_of_beq_eq_true hb
      refine ⟨t, k', ?_, h3 0 n' t k' rfl rfl, hk⟩
      unfold Op.lookupswitch.offset
      rw [if_pos (by rw [e1]; rcases hxc with ⟨c1, c2⟩ | ⟨c1, c2⟩ <;> omega)]
      exact e3
theorem sm_lsw [G : zGh] {len tdf : Nat} {dflt : Int} {ps : Array (Int × Int)} {ks : List (Nat × zK d)} {kd : zK d} (ts : List (Nat × Nat)) (dg : decode X.2.1 pc = .ok (.lookupswitch dflt ps, len)) (hinc : (ps.toList.zip (ps.toList.drop 1)).all (fun (a, next) => a.1 < next.1) = true) (hlk : zlk pc ps.toList ts = true) (hkey : ks.map (fun q => q.1) = ts.map (fun q => q.1)) (hdf : (pc : Int) + dflt = (tdf : Int)) (hkd : zSim X fr P tdf kd) (hks : ∀ (i n t : Nat) (k : zK d), ts[i]? = some (n, t) → ks[i]? = some (n, k) → zSim X fr P t k) : zSim X fr P pc (xlsw ks kd) := by
  intro Ch cA D ad0 A MC MS p l e s m args below meth c ls st H locs cells slots L S h Cx hk R0
  obtain ⟨ws, hHp, hpre, hP, hD, hS, hL, hst, hcb, hsb⟩ := R0
  obtain ⟨a, S, rfl, hk1⟩ := zpI_t hk
  obtain ⟨x, st, rfl, hx, hst1⟩ := zRepL_I hst
  have hk1 : cond (Nat.ble 4294967296 a) false (zls a (kd L S h) L S h ks) = true := hk1
  cases hb : Nat.ble 4294967296 a
  · rw [hb, cond_false] at hk1
    obtain ⟨tgt, k, g1, g2, g3⟩ := zls_t (hx.1 (zble_f hb)) hdf hkd ps.toList ts ks hlk hkey hks hk1
    exact lv_lookup Cx.1 Cx.2.1 dg hinc rfl g1 (g2 Ch cA D ad0 A MC MS p l e s m args below meth c ls _ H locs cells slots L _ h Cx g3 ⟨ws, hHp, hpre, hP, hD, hS, hL, hst1, hcb, hsb⟩)
  · rw [hb] at hk1; cases hk1
noncomputable def xmnaD (kc ki : Nat) (k : zK d) : zK d := fun L S h => cond (Nat.ble d 30) (xmna kc ki k L S h) false
theorem sm_mnaD [G : zGh] {kc ki : Nat} (hh : d ≤ 30 → zSim X fr P pc (xmna kc ki k)) : zSim X fr P pc (xmnaD kc ki k) := by
  intro Ch cA D ad0 A MC MS p l e s m args below meth c ls st H locs cells slots L S h Cx hk R0
  have hk : cond (Nat.ble d 30) (xmna kc ki k L S h) false = true := hk
  cases hb : Nat.ble d 30
  · rw [hb] at hk; cases hk
  · rw [hb, cond_true] at hk
    exact hh (Nat.le_of_ble_eq_true hb) Ch cA D ad0 A MC MS p l e s m args below meth c ls st H locs cells slots L S h Cx hk R0
end OPS
section OPS
variable {d : Nat} {X : zM} {fr : Nat} {P : zP d} {pc : Nat} {k : zK d}
theorem sm_mnaDI [G : zGh] {index : Nat} (hcl : Cond.classLink X.1 index "[[I" ∈ ztbl) (harr : Cond.arrayClass .int ∈ ztbl) (dg : decode X.2.1 pc = .ok (.multianewarray index 2, 4)) (hs : zSim X fr P (pc + 4) k) : zSim X fr P pc (xmnaD 3 0 k) := sm_mnaD (fun hd => sm_mnaI hcl harr hd dg hs)
theorem sm_mnaDJ [G : zGh] {index : Nat} (hcl : Cond.classLink X.1 index "[[J" ∈ ztbl) (harr : Cond.arrayClass .long ∈ ztbl) (dg : decode X.2.1 pc = .ok (.multianewarray index 2, 4)) (hs : zSim X fr P (pc + 4) k) : zSim X fr P pc (xmnaD 4 2 k) := sm_mnaD (fun hd => sm_mnaJ hcl harr hd dg hs)
end OPS
end
