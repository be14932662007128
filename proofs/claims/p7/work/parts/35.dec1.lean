/-! instructions of the class, by program -/
theorem zdT_dX0_init_0 : zdch cX0_init [(0, (.aload_n 0, 1)), (1, (.invokespecial 3, 3)), (4, (.aload_n 1, 1)), (5, (.getfield 9, 3)), (8, (.istore 4, 2)), (10, (.aload_n 0, 1)), (11, (.iload 4, 2)), (13, (.newarray .int, 2)), (15, (.putfield 15, 3)), (18, (.aload_n 0, 1)), (19, (.iload 4, 2)), (21, (.aload_n 1, 1)), (22, (.getfield 21, 3)), (25, (.multianewarray 24 2, 4)), (29, (.putfield 26, 3)), (32, (.aload_n 0, 1)), (33, (.iload 4, 2)), (35, (.newarray .int, 2)), (37, (.putfield 29, 3)), (40, (.aload_n 0, 1)), (41, (.iload 4, 2)), (43, (.newarray .int, 2)), (45, (.putfield 32, 3)), (48, (.aload_n 0, 1)), (49, (.iload 4, 2))] = true := by decide +kernel
theorem dX0_init_0 : decode cX0_init 0 = .ok (.aload_n 0, 1) := zdcg 0 zdT_dX0_init_0 rfl
theorem dX0_init_1 : decode cX0_init 1 = .ok (.invokespecial 3, 3) := zdcg 1 zdT_dX0_init_0 rfl
theorem dX0_init_4 : decode cX0_init 4 = .ok (.aload_n 1, 1) := zdcg 2 zdT_dX0_init_0 rfl
theorem dX0_init_5 : decode cX0_init 5 = .ok (.getfield 9, 3) := zdcg 3 zdT_dX0_init_0 rfl
theorem dX0_init_8 : decode cX0_init 8 = .ok (.istore 4, 2) := zdcg 4 zdT_dX0_init_0 rfl
theorem dX0_init_10 : decode cX0_init 10 = .ok (.aload_n 0, 1) := zdcg 5 zdT_dX0_init_0 rfl
theorem dX0_init_11 : decode cX0_init 11 = .ok (.iload 4, 2) := zdcg 6 zdT_dX0_init_0 rfl
theorem dX0_init_13 : decode cX0_init 13 = .ok (.newarray .int, 2) := zdcg 7 zdT_dX0_init_0 rfl
theorem dX0_init_15 : decode cX0_init 15 = .ok (.putfield 15, 3) := zdcg 8 zdT_dX0_init_0 rfl
theorem dX0_init_18 : decode cX0_init 18 = .ok (.aload_n 0, 1) := zdcg 9 zdT_dX0_init_0 rfl
theorem dX0_init_19 : decode cX0_init 19 = .ok (.iload 4, 2) := zdcg 10 zdT_dX0_init_0 rfl
theorem dX0_init_21 : decode cX0_init 21 = .ok (.aload_n 1, 1) := zdcg 11 zdT_dX0_init_0 rfl
theorem dX0_init_22 : decode cX0_init 22 = .ok (.getfield 21, 3) := zdcg 12 zdT_dX0_init_0 rfl
theorem dX0_init_25 : decode cX0_init 25 = .ok (.multianewarray 24 2, 4) := zdcg 13 zdT_dX0_init_0 rfl
theorem dX0_init_29 : decode cX0_init 29 = .ok (.putfield 26, 3) := zdcg 14 zdT_dX0_init_0 rfl
theorem dX0_init_32 : decode cX0_init 32 = .ok (.aload_n 0, 1) := zdcg 15 zdT_dX0_init_0 rfl
theorem dX0_init_33 : decode cX0_init 33 = .ok (.iload 4, 2) := zdcg 16 zdT_dX0_init_0 rfl
theorem dX0_init_35 : decode cX0_init 35 = .ok (.newarray .int, 2) := zdcg 17 zdT_dX0_init_0 rfl
theorem dX0_init_37 : decode cX0_init 37 = .ok (.putfield 29, 3) := zdcg 18 zdT_dX0_init_0 rfl
theorem dX0_init_40 : decode cX0_init 40 = .ok (.aload_n 0, 1) := zdcg 19 zdT_dX0_init_0 rfl
theorem dX0_init_41 : decode cX0_init 41 = .ok (.iload 4, 2) := zdcg 20 zdT_dX0_init_0 rfl
theorem dX0_init_43 : decode cX0_init 43 = .ok (.newarray .int, 2) := zdcg 21 zdT_dX0_init_0 rfl
theorem dX0_init_45 : decode cX0_init 45 = .ok (.putfield 32, 3) := zdcg 22 zdT_dX0_init_0 rfl
theorem dX0_init_48 : decode cX0_init 48 = .ok (.aload_n 0, 1) := zdcg 23 zdT_dX0_init_0 rfl
theorem dX0_init_49 : decode cX0_init 49 = .ok (.iload 4, 2) := zdcg 24 zdT_dX0_init_0 rfl
theorem zdT_dX0_init_51 : zdch cX0_init [(51, (.newarray .int, 2)), (53, (.putfield 35, 3)), (56, (.aload_n 0, 1)), (57, (.iload 4, 2)), (59, (.newarray .int, 2)), (61, (.putfield 38, 3)), (64, (.aload_n 0, 1)), (65, (.iload 4, 2)), (67, (.newarray .int, 2)), (69, (.putfield 41, 3)), (72, (.bipush 12, 2)), (74, (.newarray .boolean, 2)), (76, (.astore 5, 2)), (78, (.iconst 0, 1)), (79, (.istore 6, 2)), (81, (.iload 6, 2)), (83, (.iload 4, 2)), (85, (.if_icmp .ge 74, 3)), (88, (.aload_n 0, 1)), (89, (.getfield 15, 3)), (92, (.iload 6, 2)), (94, (.aload_n 1, 1)), (95, (.getfield 44, 3)), (98, (.iload 6, 2)), (100, (.aaload, 1))] = true := by decide +kernel
theorem dX0_init_51 : decode cX0_init 51 = .ok (.newarray .int, 2) := zdcg 0 zdT_dX0_init_51 rfl
theorem dX0_init_53 : decode cX0_init 53 = .ok (.putfield 35, 3) := zdcg 1 zdT_dX0_init_51 rfl
theorem dX0_init_56 : decode cX0_init 56 = .ok (.aload_n 0, 1) := zdcg 2 zdT_dX0_init_51 rfl
theorem dX0_init_57 : decode cX0_init 57 = .ok (.iload 4, 2) := zdcg 3 zdT_dX0_init_51 rfl
theorem dX0_init_59 : decode cX0_init 59 = .ok (.newarray .int, 2) := zdcg 4 zdT_dX0_init_51 rfl
theorem dX0_init_61 : decode cX0_init 61 = .ok (.putfield 38, 3) := zdcg 5 zdT_dX0_init_51 rfl
theorem dX0_init_64 : decode cX0_init 64 = .ok (.aload_n 0, 1) := zdcg 6 zdT_dX0_init_51 rfl
theorem dX0_init_65 : decode cX0_init 65 = .ok (.iload 4, 2) := zdcg 7 zdT_dX0_init_51 rfl
theorem dX0_init_67 : decode cX0_init 67 = .ok (.newarray .int, 2) := zdcg 8 zdT_dX0_init_51 rfl
theorem dX0_init_69 : decode cX0_init 69 = .ok (.putfield 41, 3) := zdcg 9 zdT_dX0_init_51 rfl
theorem dX0_init_72 : decode cX0_init 72 = .ok (.bipush 12, 2) := zdcg 10 zdT_dX0_init_51 rfl
theorem dX0_init_74 : decode cX0_init 74 = .ok (.newarray .boolean, 2) := zdcg 11 zdT_dX0_init_51 rfl
theorem dX0_init_76 : decode cX0_init 76 = .ok (.astore 5, 2) := zdcg 12 zdT_dX0_init_51 rfl
theorem dX0_init_78 : decode cX0_init 78 = .ok (.iconst 0, 1) := zdcg 13 zdT_dX0_init_51 rfl
theorem dX0_init_79 : decode cX0_init 79 = .ok (.istore 6, 2) := zdcg 14 zdT_dX0_init_51 rfl
theorem dX0_init_81 : decode cX0_init 81 = .ok (.iload 6, 2) := zdcg 15 zdT_dX0_init_51 rfl
theorem dX0_init_83 : decode cX0_init 83 = .ok (.iload 4, 2) := zdcg 16 zdT_dX0_init_51 rfl
theorem dX0_init_85 : decode cX0_init 85 = .ok (.if_icmp .ge 74, 3) := zdcg 17 zdT_dX0_init_51 rfl
theorem dX0_init_88 : decode cX0_init 88 = .ok (.aload_n 0, 1) := zdcg 18 zdT_dX0_init_51 rfl
theorem dX0_init_89 : decode cX0_init 89 = .ok (.getfield 15, 3) := zdcg 19 zdT_dX0_init_51 rfl
theorem dX0_init_92 : decode cX0_init 92 = .ok (.iload 6, 2) := zdcg 20 zdT_dX0_init_51 rfl
theorem dX0_init_94 : decode cX0_init 94 = .ok (.aload_n 1, 1) := zdcg 21 zdT_dX0_init_51 rfl
theorem dX0_init_95 : decode cX0_init 95 = .ok (.getfield 44, 3) := zdcg 22 zdT_dX0_init_51 rfl
theorem dX0_init_98 : decode cX0_init 98 = .ok (.iload 6, 2) := zdcg 23 zdT_dX0_init_51 rfl
theorem dX0_init_100 : decode cX0_init 100 = .ok (.aaload, 1) := zdcg 24 zdT_dX0_init_51 rfl
theorem zdT_dX0_init_101 : zdch cX0_init [(101, (.getfield 48, 3)), (104, (.iload_n 2, 1)), (105, (.aload 5, 2)), (107, (.invokestatic 53, 3)), (110, (.iastore, 1)), (111, (.aload 5, 2)), (113, (.aload_n 1, 1)), (114, (.getfield 44, 3)), (117, (.iload 6, 2)), (119, (.aaload, 1)), (120, (.getfield 57, 3)), (123, (.aload_n 0, 1)), (124, (.getfield 26, 3)), (127, (.iload 6, 2)), (129, (.aaload, 1)), (130, (.invokestatic 60, 3)), (133, (.aload_n 0, 1)), (134, (.iload 6, 2)), (136, (.iload_n 2, 1)), (137, (.aload_n 3, 1)), (138, (.iload 6, 2)), (140, (.iaload, 1)), (141, (.iconst (-1), 1)), (142, (.if_icmp .eq 7, 3)), (145, (.iconst 1, 1))] = true := by decide +kernel
theorem dX0_init_101 : decode cX0_init 101 = .ok (.getfield 48, 3) := zdcg 0 zdT_dX0_init_101 rfl
theorem dX0_init_104 : decode cX0_init 104 = .ok (.iload_n 2, 1) := zdcg 1 zdT_dX0_init_101 rfl
theorem dX0_init_105 : decode cX0_init 105 = .ok (.aload 5, 2) := zdcg 2 zdT_dX0_init_101 rfl
theorem dX0_init_107 : decode cX0_init 107 = .ok (.invokestatic 53, 3) := zdcg 3 zdT_dX0_init_101 rfl
theorem dX0_init_110 : decode cX0_init 110 = .ok (.iastore, 1) := zdcg 4 zdT_dX0_init_101 rfl
theorem dX0_init_111 : decode cX0_init 111 = .ok (.aload 5, 2) := zdcg 5 zdT_dX0_init_101 rfl
theorem dX0_init_113 : decode cX0_init 113 = .ok (.aload_n 1, 1) := zdcg 6 zdT_dX0_init_101 rfl
theorem dX0_init_114 : decode cX0_init 114 = .ok (.getfield 44, 3) := zdcg 7 zdT_dX0_init_101 rfl
theorem dX0_init_117 : decode cX0_init 117 = .ok (.iload 6, 2) := zdcg 8 zdT_dX0_init_101 rfl
theorem dX0_init_119 : decode cX0_init 119 = .ok (.aaload, 1) := zdcg 9 zdT_dX0_init_101 rfl
theorem dX0_init_120 : decode cX0_init 120 = .ok (.getfield 57, 3) := zdcg 10 zdT_dX0_init_101 rfl
theorem dX0_init_123 : decode cX0_init 123 = .ok (.aload_n 0, 1) := zdcg 11 zdT_dX0_init_101 rfl
theorem dX0_init_124 : decode cX0_init 124 = .ok (.getfield 26, 3) := zdcg 12 zdT_dX0_init_101 rfl
theorem dX0_init_127 : decode cX0_init 127 = .ok (.iload 6, 2) := zdcg 13 zdT_dX0_init_101 rfl
theorem dX0_init_129 : decode cX0_init 129 = .ok (.aaload, 1) := zdcg 14 zdT_dX0_init_101 rfl
theorem dX0_init_130 : decode cX0_init 130 = .ok (.invokestatic 60, 3) := zdcg 15 zdT_dX0_init_101 rfl
theorem dX0_init_133 : decode cX0_init 133 = .ok (.aload_n 0, 1) := zdcg 16 zdT_dX0_init_101 rfl
theorem dX0_init_134 : decode cX0_init 134 = .ok (.iload 6, 2) := zdcg 17 zdT_dX0_init_101 rfl
theorem dX0_init_136 : decode cX0_init 136 = .ok (.iload_n 2, 1) := zdcg 18 zdT_dX0_init_101 rfl
theorem dX0_init_137 : decode cX0_init 137 = .ok (.aload_n 3, 1) := zdcg 19 zdT_dX0_init_101 rfl
theorem dX0_init_138 : decode cX0_init 138 = .ok (.iload 6, 2) := zdcg 20 zdT_dX0_init_101 rfl
theorem dX0_init_140 : decode cX0_init 140 = .ok (.iaload, 1) := zdcg 21 zdT_dX0_init_101 rfl
theorem dX0_init_141 : decode cX0_init 141 = .ok (.iconst (-1), 1) := zdcg 22 zdT_dX0_init_101 rfl
theorem dX0_init_142 : decode cX0_init 142 = .ok (.if_icmp .eq 7, 3) := zdcg 23 zdT_dX0_init_101 rfl
theorem dX0_init_145 : decode cX0_init 145 = .ok (.iconst 1, 1) := zdcg 24 zdT_dX0_init_101 rfl
theorem zdT_dX0_init_146 : zdch cX0_init [(146, (.goto 4, 3)), (149, (.iconst 0, 1)), (150, (.invokevirtual 64, 3)), (153, (.iinc 6 1, 3)), (156, (.goto (-75), 3)), (159, (.return_, 1))] = true := by decide +kernel
theorem dX0_init_146 : decode cX0_init 146 = .ok (.goto 4, 3) := zdcg 0 zdT_dX0_init_146 rfl
theorem dX0_init_149 : decode cX0_init 149 = .ok (.iconst 0, 1) := zdcg 1 zdT_dX0_init_146 rfl
theorem dX0_init_150 : decode cX0_init 150 = .ok (.invokevirtual 64, 3) := zdcg 2 zdT_dX0_init_146 rfl
theorem dX0_init_153 : decode cX0_init 153 = .ok (.iinc 6 1, 3) := zdcg 3 zdT_dX0_init_146 rfl
theorem dX0_init_156 : decode cX0_init 156 = .ok (.goto (-75), 3) := zdcg 4 zdT_dX0_init_146 rfl
theorem dX0_init_159 : decode cX0_init 159 = .ok (.return_, 1) := zdcg 5 zdT_dX0_init_146 rfl
theorem zdT_dX0_withoutDefect_0 : zdch cX0_withoutDefect [(0, (.iconst 0, 1)), (1, (.istore_n 1, 1)), (2, (.iconst 0, 1)), (3, (.istore_n 2, 1)), (4, (.iload_n 2, 1)), (5, (.aload_n 0, 1)), (6, (.getfield 68, 3)), (9, (.if_icmp .ge 29, 3)), (12, (.iload_n 1, 1)), (13, (.aload_n 0, 1)), (14, (.getfield 41, 3)), (17, (.iload_n 2, 1)), (18, (.iaload, 1)), (19, (.ifCond .ne 7, 3)), (22, (.iconst 1, 1)), (23, (.goto 4, 3)), (26, (.iconst 0, 1)), (27, (.invokestatic 69, 3)), (30, (.iadd, 1)), (31, (.istore_n 1, 1)), (32, (.iinc 2 1, 3)), (35, (.goto (-31), 3)), (38, (.iload_n 1, 1)), (39, (.ireturn, 1))] = true := by decide +kernel
theorem dX0_withoutDefect_0 : decode cX0_withoutDefect 0 = .ok (.iconst 0, 1) := zdcg 0 zdT_dX0_withoutDefect_0 rfl
theorem dX0_withoutDefect_1 : decode cX0_withoutDefect 1 = .ok (.istore_n 1, 1) := zdcg 1 zdT_dX0_withoutDefect_0 rfl
theorem dX0_withoutDefect_2 : decode cX0_withoutDefect 2 = .ok (.iconst 0, 1) := zdcg 2 zdT_dX0_withoutDefect_0 rfl
theorem dX0_withoutDefect_3 : decode cX0_withoutDefect 3 = .ok (.istore_n 2, 1) := zdcg 3 zdT_dX0_withoutDefect_0 rfl
theorem dX0_withoutDefect_4 : decode cX0_withoutDefect 4 = .ok (.iload_n 2, 1) := zdcg 4 zdT_dX0_withoutDefect_0 rfl
theorem dX0_withoutDefect_5 : decode cX0_withoutDefect 5 = .ok (.aload_n 0, 1) := zdcg 5 zdT_dX0_withoutDefect_0 rfl
theorem dX0_withoutDefect_6 : decode cX0_withoutDefect 6 = .ok (.getfield 68, 3) := zdcg 6 zdT_dX0_withoutDefect_0 rfl
theorem dX0_withoutDefect_9 : decode cX0_withoutDefect 9 = .ok (.if_icmp .ge 29, 3) := zdcg 7 zdT_dX0_withoutDefect_0 rfl
theorem dX0_withoutDefect_12 : decode cX0_withoutDefect 12 = .ok (.iload_n 1, 1) := zdcg 8 zdT_dX0_withoutDefect_0 rfl
theorem dX0_withoutDefect_13 : decode cX0_withoutDefect 13 = .ok (.aload_n 0, 1) := zdcg 9 zdT_dX0_withoutDefect_0 rfl
theorem dX0_withoutDefect_14 : decode cX0_withoutDefect 14 = .ok (.getfield 41, 3) := zdcg 10 zdT_dX0_withoutDefect_0 rfl
theorem dX0_withoutDefect_17 : decode cX0_withoutDefect 17 = .ok (.iload_n 2, 1) := zdcg 11 zdT_dX0_withoutDefect_0 rfl
theorem dX0_withoutDefect_18 : decode cX0_withoutDefect 18 = .ok (.iaload, 1) := zdcg 12 zdT_dX0_withoutDefect_0 rfl
theorem dX0_withoutDefect_19 : decode cX0_withoutDefect 19 = .ok (.ifCond .ne 7, 3) := zdcg 13 zdT_dX0_withoutDefect_0 rfl
theorem dX0_withoutDefect_22 : decode cX0_withoutDefect 22 = .ok (.iconst 1, 1) := zdcg 14 zdT_dX0_withoutDefect_0 rfl
theorem dX0_withoutDefect_23 : decode cX0_withoutDefect 23 = .ok (.goto 4, 3) := zdcg 15 zdT_dX0_withoutDefect_0 rfl
theorem dX0_withoutDefect_26 : decode cX0_withoutDefect 26 = .ok (.iconst 0, 1) := zdcg 16 zdT_dX0_withoutDefect_0 rfl
theorem dX0_withoutDefect_27 : decode cX0_withoutDefect 27 = .ok (.invokestatic 69, 3) := zdcg 17 zdT_dX0_withoutDefect_0 rfl
theorem dX0_withoutDefect_30 : decode cX0_withoutDefect 30 = .ok (.iadd, 1) := zdcg 18 zdT_dX0_withoutDefect_0 rfl
theorem dX0_withoutDefect_31 : decode cX0_withoutDefect 31 = .ok (.istore_n 1, 1) := zdcg 19 zdT_dX0_withoutDefect_0 rfl
theorem dX0_withoutDefect_32 : decode cX0_withoutDefect 32 = .ok (.iinc 2 1, 3) := zdcg 20 zdT_dX0_withoutDefect_0 rfl
theorem dX0_withoutDefect_35 : decode cX0_withoutDefect 35 = .ok (.goto (-31), 3) := zdcg 21 zdT_dX0_withoutDefect_0 rfl
theorem dX0_withoutDefect_38 : decode cX0_withoutDefect 38 = .ok (.iload_n 1, 1) := zdcg 22 zdT_dX0_withoutDefect_0 rfl
theorem dX0_withoutDefect_39 : decode cX0_withoutDefect 39 = .ok (.ireturn, 1) := zdcg 23 zdT_dX0_withoutDefect_0 rfl
theorem zdT_dX0_slide_0 : zdch cX0_slide [(0, (.iconst 0, 1)), (1, (.istore_n 3, 1)), (2, (.iload_n 3, 1)), (3, (.aload_n 2, 1)), (4, (.arraylength, 1)), (5, (.if_icmp .ge 13, 3)), (8, (.aload_n 2, 1)), (9, (.iload_n 3, 1)), (10, (.iconst 0, 1)), (11, (.bastore, 1)), (12, (.iinc 3 1, 3)), (15, (.goto (-13), 3)), (18, (.iconst 0, 1)), (19, (.istore_n 3, 1)), (20, (.iload_n 3, 1)), (21, (.aload_n 0, 1)), (22, (.arraylength, 1)), (23, (.if_icmp .ge 22, 3)), (26, (.aload_n 2, 1)), (27, (.aload_n 0, 1)), (28, (.iload_n 3, 1)), (29, (.iaload, 1)), (30, (.aload_n 0, 1)), (31, (.arraylength, 1)), (32, (.iadd, 1))] = true := by decide +kernel
theorem dX0_slide_0 : decode cX0_slide 0 = .ok (.iconst 0, 1) := zdcg 0 zdT_dX0_slide_0 rfl
theorem dX0_slide_1 : decode cX0_slide 1 = .ok (.istore_n 3, 1) := zdcg 1 zdT_dX0_slide_0 rfl
theorem dX0_slide_2 : decode cX0_slide 2 = .ok (.iload_n 3, 1) := zdcg 2 zdT_dX0_slide_0 rfl
theorem dX0_slide_3 : decode cX0_slide 3 = .ok (.aload_n 2, 1) := zdcg 3 zdT_dX0_slide_0 rfl
theorem dX0_slide_4 : decode cX0_slide 4 = .ok (.arraylength, 1) := zdcg 4 zdT_dX0_slide_0 rfl
theorem dX0_slide_5 : decode cX0_slide 5 = .ok (.if_icmp .ge 13, 3) := zdcg 5 zdT_dX0_slide_0 rfl
theorem dX0_slide_8 : decode cX0_slide 8 = .ok (.aload_n 2, 1) := zdcg 6 zdT_dX0_slide_0 rfl
theorem dX0_slide_9 : decode cX0_slide 9 = .ok (.iload_n 3, 1) := zdcg 7 zdT_dX0_slide_0 rfl
theorem dX0_slide_10 : decode cX0_slide 10 = .ok (.iconst 0, 1) := zdcg 8 zdT_dX0_slide_0 rfl
theorem dX0_slide_11 : decode cX0_slide 11 = .ok (.bastore, 1) := zdcg 9 zdT_dX0_slide_0 rfl
theorem dX0_slide_12 : decode cX0_slide 12 = .ok (.iinc 3 1, 3) := zdcg 10 zdT_dX0_slide_0 rfl
theorem dX0_slide_15 : decode cX0_slide 15 = .ok (.goto (-13), 3) := zdcg 11 zdT_dX0_slide_0 rfl
theorem dX0_slide_18 : decode cX0_slide 18 = .ok (.iconst 0, 1) := zdcg 12 zdT_dX0_slide_0 rfl
theorem dX0_slide_19 : decode cX0_slide 19 = .ok (.istore_n 3, 1) := zdcg 13 zdT_dX0_slide_0 rfl
theorem dX0_slide_20 : decode cX0_slide 20 = .ok (.iload_n 3, 1) := zdcg 14 zdT_dX0_slide_0 rfl
theorem dX0_slide_21 : decode cX0_slide 21 = .ok (.aload_n 0, 1) := zdcg 15 zdT_dX0_slide_0 rfl
theorem dX0_slide_22 : decode cX0_slide 22 = .ok (.arraylength, 1) := zdcg 16 zdT_dX0_slide_0 rfl
theorem dX0_slide_23 : decode cX0_slide 23 = .ok (.if_icmp .ge 22, 3) := zdcg 17 zdT_dX0_slide_0 rfl
theorem dX0_slide_26 : decode cX0_slide 26 = .ok (.aload_n 2, 1) := zdcg 18 zdT_dX0_slide_0 rfl
theorem dX0_slide_27 : decode cX0_slide 27 = .ok (.aload_n 0, 1) := zdcg 19 zdT_dX0_slide_0 rfl
theorem dX0_slide_28 : decode cX0_slide 28 = .ok (.iload_n 3, 1) := zdcg 20 zdT_dX0_slide_0 rfl
theorem dX0_slide_29 : decode cX0_slide 29 = .ok (.iaload, 1) := zdcg 21 zdT_dX0_slide_0 rfl
theorem dX0_slide_30 : decode cX0_slide 30 = .ok (.aload_n 0, 1) := zdcg 22 zdT_dX0_slide_0 rfl
theorem dX0_slide_31 : decode cX0_slide 31 = .ok (.arraylength, 1) := zdcg 23 zdT_dX0_slide_0 rfl
theorem dX0_slide_32 : decode cX0_slide 32 = .ok (.iadd, 1) := zdcg 24 zdT_dX0_slide_0 rfl
theorem zdT_dX0_slide_33 : zdch cX0_slide [(33, (.iconst 1, 1)), (34, (.isub, 1)), (35, (.iload_n 3, 1)), (36, (.isub, 1)), (37, (.iconst 1, 1)), (38, (.bastore, 1)), (39, (.iinc 3 1, 3)), (42, (.goto (-22), 3)), (45, (.iconst 0, 1)), (46, (.istore_n 3, 1)), (47, (.iload_n 1, 1)), (48, (.istore 4, 2)), (50, (.iload 4, 2)), (52, (.aload_n 2, 1)), (53, (.arraylength, 1)), (54, (.if_icmp .ge 59, 3)), (57, (.iload 4, 2)), (59, (.istore 5, 2)), (61, (.iload 5, 2)), (63, (.iload_n 1, 1)), (64, (.if_icmp .lt 43, 3)), (67, (.aload_n 2, 1)), (68, (.iload 5, 2)), (70, (.baload, 1)), (71, (.ifCond .eq 36, 3))] = true := by decide +kernel
theorem dX0_slide_33 : decode cX0_slide 33 = .ok (.iconst 1, 1) := zdcg 0 zdT_dX0_slide_33 rfl
theorem dX0_slide_34 : decode cX0_slide 34 = .ok (.isub, 1) := zdcg 1 zdT_dX0_slide_33 rfl
theorem dX0_slide_35 : decode cX0_slide 35 = .ok (.iload_n 3, 1) := zdcg 2 zdT_dX0_slide_33 rfl
theorem dX0_slide_36 : decode cX0_slide 36 = .ok (.isub, 1) := zdcg 3 zdT_dX0_slide_33 rfl
theorem dX0_slide_37 : decode cX0_slide 37 = .ok (.iconst 1, 1) := zdcg 4 zdT_dX0_slide_33 rfl
theorem dX0_slide_38 : decode cX0_slide 38 = .ok (.bastore, 1) := zdcg 5 zdT_dX0_slide_33 rfl
theorem dX0_slide_39 : decode cX0_slide 39 = .ok (.iinc 3 1, 3) := zdcg 6 zdT_dX0_slide_33 rfl
theorem dX0_slide_42 : decode cX0_slide 42 = .ok (.goto (-22), 3) := zdcg 7 zdT_dX0_slide_33 rfl
theorem dX0_slide_45 : decode cX0_slide 45 = .ok (.iconst 0, 1) := zdcg 8 zdT_dX0_slide_33 rfl
theorem dX0_slide_46 : decode cX0_slide 46 = .ok (.istore_n 3, 1) := zdcg 9 zdT_dX0_slide_33 rfl
theorem dX0_slide_47 : decode cX0_slide 47 = .ok (.iload_n 1, 1) := zdcg 10 zdT_dX0_slide_33 rfl
theorem dX0_slide_48 : decode cX0_slide 48 = .ok (.istore 4, 2) := zdcg 11 zdT_dX0_slide_33 rfl
theorem dX0_slide_50 : decode cX0_slide 50 = .ok (.iload 4, 2) := zdcg 12 zdT_dX0_slide_33 rfl
theorem dX0_slide_52 : decode cX0_slide 52 = .ok (.aload_n 2, 1) := zdcg 13 zdT_dX0_slide_33 rfl
theorem dX0_slide_53 : decode cX0_slide 53 = .ok (.arraylength, 1) := zdcg 14 zdT_dX0_slide_33 rfl
theorem dX0_slide_54 : decode cX0_slide 54 = .ok (.if_icmp .ge 59, 3) := zdcg 15 zdT_dX0_slide_33 rfl
theorem dX0_slide_57 : decode cX0_slide 57 = .ok (.iload 4, 2) := zdcg 16 zdT_dX0_slide_33 rfl
theorem dX0_slide_59 : decode cX0_slide 59 = .ok (.istore 5, 2) := zdcg 17 zdT_dX0_slide_33 rfl
theorem dX0_slide_61 : decode cX0_slide 61 = .ok (.iload 5, 2) := zdcg 18 zdT_dX0_slide_33 rfl
theorem dX0_slide_63 : decode cX0_slide 63 = .ok (.iload_n 1, 1) := zdcg 19 zdT_dX0_slide_33 rfl
theorem dX0_slide_64 : decode cX0_slide 64 = .ok (.if_icmp .lt 43, 3) := zdcg 20 zdT_dX0_slide_33 rfl
theorem dX0_slide_67 : decode cX0_slide 67 = .ok (.aload_n 2, 1) := zdcg 21 zdT_dX0_slide_33 rfl
theorem dX0_slide_68 : decode cX0_slide 68 = .ok (.iload 5, 2) := zdcg 22 zdT_dX0_slide_33 rfl
theorem dX0_slide_70 : decode cX0_slide 70 = .ok (.baload, 1) := zdcg 23 zdT_dX0_slide_33 rfl
theorem dX0_slide_71 : decode cX0_slide 71 = .ok (.ifCond .eq 36, 3) := zdcg 24 zdT_dX0_slide_33 rfl
theorem zdT_dX0_slide_74 : zdch cX0_slide [(74, (.aload_n 2, 1)), (75, (.iload 5, 2)), (77, (.iload_n 1, 1)), (78, (.isub, 1)), (79, (.baload, 1)), (80, (.ifCond .ne 27, 3)), (83, (.aload_n 2, 1)), (84, (.iload 5, 2)), (86, (.iconst 0, 1)), (87, (.bastore, 1)), (88, (.aload_n 2, 1)), (89, (.iload 5, 2)), (91, (.iload_n 1, 1)), (92, (.isub, 1)), (93, (.iconst 1, 1)), (94, (.bastore, 1)), (95, (.iload 5, 2)), (97, (.iload_n 1, 1)), (98, (.isub, 1)), (99, (.istore 5, 2)), (101, (.iinc 3 1, 3)), (104, (.goto (-43), 3)), (107, (.iinc 4 1, 3)), (110, (.goto (-60), 3)), (113, (.iload_n 3, 1))] = true := by decide +kernel
theorem dX0_slide_74 : decode cX0_slide 74 = .ok (.aload_n 2, 1) := zdcg 0 zdT_dX0_slide_74 rfl
theorem dX0_slide_75 : decode cX0_slide 75 = .ok (.iload 5, 2) := zdcg 1 zdT_dX0_slide_74 rfl
theorem dX0_slide_77 : decode cX0_slide 77 = .ok (.iload_n 1, 1) := zdcg 2 zdT_dX0_slide_74 rfl
theorem dX0_slide_78 : decode cX0_slide 78 = .ok (.isub, 1) := zdcg 3 zdT_dX0_slide_74 rfl
theorem dX0_slide_79 : decode cX0_slide 79 = .ok (.baload, 1) := zdcg 4 zdT_dX0_slide_74 rfl
theorem dX0_slide_80 : decode cX0_slide 80 = .ok (.ifCond .ne 27, 3) := zdcg 5 zdT_dX0_slide_74 rfl
theorem dX0_slide_83 : decode cX0_slide 83 = .ok (.aload_n 2, 1) := zdcg 6 zdT_dX0_slide_74 rfl
theorem dX0_slide_84 : decode cX0_slide 84 = .ok (.iload 5, 2) := zdcg 7 zdT_dX0_slide_74 rfl
theorem dX0_slide_86 : decode cX0_slide 86 = .ok (.iconst 0, 1) := zdcg 8 zdT_dX0_slide_74 rfl
theorem dX0_slide_87 : decode cX0_slide 87 = .ok (.bastore, 1) := zdcg 9 zdT_dX0_slide_74 rfl
theorem dX0_slide_88 : decode cX0_slide 88 = .ok (.aload_n 2, 1) := zdcg 10 zdT_dX0_slide_74 rfl
theorem dX0_slide_89 : decode cX0_slide 89 = .ok (.iload 5, 2) := zdcg 11 zdT_dX0_slide_74 rfl
theorem dX0_slide_91 : decode cX0_slide 91 = .ok (.iload_n 1, 1) := zdcg 12 zdT_dX0_slide_74 rfl
theorem dX0_slide_92 : decode cX0_slide 92 = .ok (.isub, 1) := zdcg 13 zdT_dX0_slide_74 rfl
theorem dX0_slide_93 : decode cX0_slide 93 = .ok (.iconst 1, 1) := zdcg 14 zdT_dX0_slide_74 rfl
theorem dX0_slide_94 : decode cX0_slide 94 = .ok (.bastore, 1) := zdcg 15 zdT_dX0_slide_74 rfl
theorem dX0_slide_95 : decode cX0_slide 95 = .ok (.iload 5, 2) := zdcg 16 zdT_dX0_slide_74 rfl
theorem dX0_slide_97 : decode cX0_slide 97 = .ok (.iload_n 1, 1) := zdcg 17 zdT_dX0_slide_74 rfl
theorem dX0_slide_98 : decode cX0_slide 98 = .ok (.isub, 1) := zdcg 18 zdT_dX0_slide_74 rfl
theorem dX0_slide_99 : decode cX0_slide 99 = .ok (.istore 5, 2) := zdcg 19 zdT_dX0_slide_74 rfl
theorem dX0_slide_101 : decode cX0_slide 101 = .ok (.iinc 3 1, 3) := zdcg 20 zdT_dX0_slide_74 rfl
theorem dX0_slide_104 : decode cX0_slide 104 = .ok (.goto (-43), 3) := zdcg 21 zdT_dX0_slide_74 rfl
theorem dX0_slide_107 : decode cX0_slide 107 = .ok (.iinc 4 1, 3) := zdcg 22 zdT_dX0_slide_74 rfl
theorem dX0_slide_110 : decode cX0_slide 110 = .ok (.goto (-60), 3) := zdcg 23 zdT_dX0_slide_74 rfl
theorem dX0_slide_113 : decode cX0_slide 113 = .ok (.iload_n 3, 1) := zdcg 24 zdT_dX0_slide_74 rfl
theorem zdT_dX0_slide_114 : zdch cX0_slide [(114, (.ireturn, 1))] = true := by decide +kernel
theorem dX0_slide_114 : decode cX0_slide 114 = .ok (.ireturn, 1) := zdcg 0 zdT_dX0_slide_114 rfl
theorem zdT_dX0_readCore_0 : zdch cX0_readCore [(0, (.iload_n 1, 1)), (1, (.istore_n 3, 1)), (2, (.iconst 0, 1)), (3, (.istore 4, 2)), (5, (.aload_n 0, 1)), (6, (.arraylength, 1)), (7, (.iconst 1, 1)), (8, (.isub, 1)), (9, (.istore 5, 2)), (11, (.iload 5, 2)), (13, (.ifCond .lt 37, 3)), (16, (.iload 4, 2)), (18, (.aload_n 2, 1)), (19, (.arraylength, 1)), (20, (.if_icmp .ge 30, 3)), (23, (.aload_n 0, 1)), (24, (.iload 5, 2)), (26, (.baload, 1)), (27, (.ifCond .eq 17, 3)), (30, (.iinc 3 (-1), 3)), (33, (.aload_n 2, 1)), (34, (.iload 4, 2)), (36, (.iload 5, 2)), (38, (.iload_n 3, 1)), (39, (.isub, 1))] = true := by decide +kernel
theorem dX0_readCore_0 : decode cX0_readCore 0 = .ok (.iload_n 1, 1) := zdcg 0 zdT_dX0_readCore_0 rfl
theorem dX0_readCore_1 : decode cX0_readCore 1 = .ok (.istore_n 3, 1) := zdcg 1 zdT_dX0_readCore_0 rfl
theorem dX0_readCore_2 : decode cX0_readCore 2 = .ok (.iconst 0, 1) := zdcg 2 zdT_dX0_readCore_0 rfl
theorem dX0_readCore_3 : decode cX0_readCore 3 = .ok (.istore 4, 2) := zdcg 3 zdT_dX0_readCore_0 rfl
theorem dX0_readCore_5 : decode cX0_readCore 5 = .ok (.aload_n 0, 1) := zdcg 4 zdT_dX0_readCore_0 rfl
theorem dX0_readCore_6 : decode cX0_readCore 6 = .ok (.arraylength, 1) := zdcg 5 zdT_dX0_readCore_0 rfl
theorem dX0_readCore_7 : decode cX0_readCore 7 = .ok (.iconst 1, 1) := zdcg 6 zdT_dX0_readCore_0 rfl
theorem dX0_readCore_8 : decode cX0_readCore 8 = .ok (.isub, 1) := zdcg 7 zdT_dX0_readCore_0 rfl
theorem dX0_readCore_9 : decode cX0_readCore 9 = .ok (.istore 5, 2) := zdcg 8 zdT_dX0_readCore_0 rfl
theorem dX0_readCore_11 : decode cX0_readCore 11 = .ok (.iload 5, 2) := zdcg 9 zdT_dX0_readCore_0 rfl
theorem dX0_readCore_13 : decode cX0_readCore 13 = .ok (.ifCond .lt 37, 3) := zdcg 10 zdT_dX0_readCore_0 rfl
theorem dX0_readCore_16 : decode cX0_readCore 16 = .ok (.iload 4, 2) := zdcg 11 zdT_dX0_readCore_0 rfl
theorem dX0_readCore_18 : decode cX0_readCore 18 = .ok (.aload_n 2, 1) := zdcg 12 zdT_dX0_readCore_0 rfl
theorem dX0_readCore_19 : decode cX0_readCore 19 = .ok (.arraylength, 1) := zdcg 13 zdT_dX0_readCore_0 rfl
theorem dX0_readCore_20 : decode cX0_readCore 20 = .ok (.if_icmp .ge 30, 3) := zdcg 14 zdT_dX0_readCore_0 rfl
theorem dX0_readCore_23 : decode cX0_readCore 23 = .ok (.aload_n 0, 1) := zdcg 15 zdT_dX0_readCore_0 rfl
theorem dX0_readCore_24 : decode cX0_readCore 24 = .ok (.iload 5, 2) := zdcg 16 zdT_dX0_readCore_0 rfl
theorem dX0_readCore_26 : decode cX0_readCore 26 = .ok (.baload, 1) := zdcg 17 zdT_dX0_readCore_0 rfl
theorem dX0_readCore_27 : decode cX0_readCore 27 = .ok (.ifCond .eq 17, 3) := zdcg 18 zdT_dX0_readCore_0 rfl
theorem dX0_readCore_30 : decode cX0_readCore 30 = .ok (.iinc 3 (-1), 3) := zdcg 19 zdT_dX0_readCore_0 rfl
theorem dX0_readCore_33 : decode cX0_readCore 33 = .ok (.aload_n 2, 1) := zdcg 20 zdT_dX0_readCore_0 rfl
theorem dX0_readCore_34 : decode cX0_readCore 34 = .ok (.iload 4, 2) := zdcg 21 zdT_dX0_readCore_0 rfl
theorem dX0_readCore_36 : decode cX0_readCore 36 = .ok (.iload 5, 2) := zdcg 22 zdT_dX0_readCore_0 rfl
theorem dX0_readCore_38 : decode cX0_readCore 38 = .ok (.iload_n 3, 1) := zdcg 23 zdT_dX0_readCore_0 rfl
theorem dX0_readCore_39 : decode cX0_readCore 39 = .ok (.isub, 1) := zdcg 24 zdT_dX0_readCore_0 rfl
theorem zdT_dX0_readCore_40 : zdch cX0_readCore [(40, (.iastore, 1)), (41, (.iinc 4 1, 3)), (44, (.iinc 5 (-1), 3)), (47, (.goto (-36), 3)), (50, (.return_, 1))] = true := by decide +kernel
theorem dX0_readCore_40 : decode cX0_readCore 40 = .ok (.iastore, 1) := zdcg 0 zdT_dX0_readCore_40 rfl
theorem dX0_readCore_41 : decode cX0_readCore 41 = .ok (.iinc 4 1, 3) := zdcg 1 zdT_dX0_readCore_40 rfl
theorem dX0_readCore_44 : decode cX0_readCore 44 = .ok (.iinc 5 (-1), 3) := zdcg 2 zdT_dX0_readCore_40 rfl
theorem dX0_readCore_47 : decode cX0_readCore 47 = .ok (.goto (-36), 3) := zdcg 3 zdT_dX0_readCore_40 rfl
theorem dX0_readCore_50 : decode cX0_readCore 50 = .ok (.return_, 1) := zdcg 4 zdT_dX0_readCore_40 rfl
theorem zdT_dX0_join_0 : zdch cX0_join [(0, (.iconst 0, 1)), (1, (.istore 4, 2)), (3, (.iload 4, 2)), (5, (.aload_n 0, 1)), (6, (.getfield 68, 3)), (9, (.if_icmp .ge 33, 3)), (12, (.aload_n 0, 1)), (13, (.getfield 26, 3)), (16, (.aload_n 0, 1)), (17, (.getfield 32, 3)), (20, (.iload 4, 2)), (22, (.iaload, 1)), (23, (.aaload, 1)), (24, (.aload_n 0, 1)), (25, (.getfield 26, 3)), (28, (.iload_n 1, 1)), (29, (.aaload, 1)), (30, (.invokestatic 73, 3)), (33, (.ifCond .ne 9, 3)), (36, (.iinc 4 1, 3)), (39, (.goto (-36), 3)), (42, (.iload 4, 2)), (44, (.aload_n 0, 1)), (45, (.getfield 68, 3)), (48, (.if_icmp .ne 40, 3))] = true := by decide +kernel
theorem dX0_join_0 : decode cX0_join 0 = .ok (.iconst 0, 1) := zdcg 0 zdT_dX0_join_0 rfl
theorem dX0_join_1 : decode cX0_join 1 = .ok (.istore 4, 2) := zdcg 1 zdT_dX0_join_0 rfl
theorem dX0_join_3 : decode cX0_join 3 = .ok (.iload 4, 2) := zdcg 2 zdT_dX0_join_0 rfl
theorem dX0_join_5 : decode cX0_join 5 = .ok (.aload_n 0, 1) := zdcg 3 zdT_dX0_join_0 rfl
theorem dX0_join_6 : decode cX0_join 6 = .ok (.getfield 68, 3) := zdcg 4 zdT_dX0_join_0 rfl
theorem dX0_join_9 : decode cX0_join 9 = .ok (.if_icmp .ge 33, 3) := zdcg 5 zdT_dX0_join_0 rfl
theorem dX0_join_12 : decode cX0_join 12 = .ok (.aload_n 0, 1) := zdcg 6 zdT_dX0_join_0 rfl
theorem dX0_join_13 : decode cX0_join 13 = .ok (.getfield 26, 3) := zdcg 7 zdT_dX0_join_0 rfl
theorem dX0_join_16 : decode cX0_join 16 = .ok (.aload_n 0, 1) := zdcg 8 zdT_dX0_join_0 rfl
theorem dX0_join_17 : decode cX0_join 17 = .ok (.getfield 32, 3) := zdcg 9 zdT_dX0_join_0 rfl
theorem dX0_join_20 : decode cX0_join 20 = .ok (.iload 4, 2) := zdcg 10 zdT_dX0_join_0 rfl
theorem dX0_join_22 : decode cX0_join 22 = .ok (.iaload, 1) := zdcg 11 zdT_dX0_join_0 rfl
theorem dX0_join_23 : decode cX0_join 23 = .ok (.aaload, 1) := zdcg 12 zdT_dX0_join_0 rfl
theorem dX0_join_24 : decode cX0_join 24 = .ok (.aload_n 0, 1) := zdcg 13 zdT_dX0_join_0 rfl
theorem dX0_join_25 : decode cX0_join 25 = .ok (.getfield 26, 3) := zdcg 14 zdT_dX0_join_0 rfl
theorem dX0_join_28 : decode cX0_join 28 = .ok (.iload_n 1, 1) := zdcg 15 zdT_dX0_join_0 rfl
theorem dX0_join_29 : decode cX0_join 29 = .ok (.aaload, 1) := zdcg 16 zdT_dX0_join_0 rfl
theorem dX0_join_30 : decode cX0_join 30 = .ok (.invokestatic 73, 3) := zdcg 17 zdT_dX0_join_0 rfl
theorem dX0_join_33 : decode cX0_join 33 = .ok (.ifCond .ne 9, 3) := zdcg 18 zdT_dX0_join_0 rfl
theorem dX0_join_36 : decode cX0_join 36 = .ok (.iinc 4 1, 3) := zdcg 19 zdT_dX0_join_0 rfl
theorem dX0_join_39 : decode cX0_join 39 = .ok (.goto (-36), 3) := zdcg 20 zdT_dX0_join_0 rfl
theorem dX0_join_42 : decode cX0_join 42 = .ok (.iload 4, 2) := zdcg 21 zdT_dX0_join_0 rfl
theorem dX0_join_44 : decode cX0_join 44 = .ok (.aload_n 0, 1) := zdcg 22 zdT_dX0_join_0 rfl
theorem dX0_join_45 : decode cX0_join 45 = .ok (.getfield 68, 3) := zdcg 23 zdT_dX0_join_0 rfl
theorem dX0_join_48 : decode cX0_join 48 = .ok (.if_icmp .ne 40, 3) := zdcg 24 zdT_dX0_join_0 rfl
theorem zdT_dX0_join_51 : zdch cX0_join [(51, (.aload_n 0, 1)), (52, (.getfield 32, 3)), (55, (.iload 4, 2)), (57, (.iload_n 1, 1)), (58, (.iastore, 1)), (59, (.aload_n 0, 1)), (60, (.getfield 41, 3)), (63, (.iload 4, 2)), (65, (.iload_n 2, 1)), (66, (.iload_n 2, 1)), (67, (.aload_n 0, 1)), (68, (.getfield 15, 3)), (71, (.iload_n 1, 1)), (72, (.iaload, 1)), (73, (.imul, 1)), (74, (.invokestatic 77, 3)), (77, (.iastore, 1)), (78, (.aload_n 0, 1)), (79, (.dup, 1)), (80, (.getfield 68, 3)), (83, (.iconst 1, 1)), (84, (.iadd, 1)), (85, (.putfield 68, 3)), (88, (.aload_n 0, 1)), (89, (.getfield 29, 3))] = true := by decide +kernel
theorem dX0_join_51 : decode cX0_join 51 = .ok (.aload_n 0, 1) := zdcg 0 zdT_dX0_join_51 rfl
theorem dX0_join_52 : decode cX0_join 52 = .ok (.getfield 32, 3) := zdcg 1 zdT_dX0_join_51 rfl
theorem dX0_join_55 : decode cX0_join 55 = .ok (.iload 4, 2) := zdcg 2 zdT_dX0_join_51 rfl
theorem dX0_join_57 : decode cX0_join 57 = .ok (.iload_n 1, 1) := zdcg 3 zdT_dX0_join_51 rfl
theorem dX0_join_58 : decode cX0_join 58 = .ok (.iastore, 1) := zdcg 4 zdT_dX0_join_51 rfl
theorem dX0_join_59 : decode cX0_join 59 = .ok (.aload_n 0, 1) := zdcg 5 zdT_dX0_join_51 rfl
theorem dX0_join_60 : decode cX0_join 60 = .ok (.getfield 41, 3) := zdcg 6 zdT_dX0_join_51 rfl
theorem dX0_join_63 : decode cX0_join 63 = .ok (.iload 4, 2) := zdcg 7 zdT_dX0_join_51 rfl
theorem dX0_join_65 : decode cX0_join 65 = .ok (.iload_n 2, 1) := zdcg 8 zdT_dX0_join_51 rfl
theorem dX0_join_66 : decode cX0_join 66 = .ok (.iload_n 2, 1) := zdcg 9 zdT_dX0_join_51 rfl
theorem dX0_join_67 : decode cX0_join 67 = .ok (.aload_n 0, 1) := zdcg 10 zdT_dX0_join_51 rfl
theorem dX0_join_68 : decode cX0_join 68 = .ok (.getfield 15, 3) := zdcg 11 zdT_dX0_join_51 rfl
theorem dX0_join_71 : decode cX0_join 71 = .ok (.iload_n 1, 1) := zdcg 12 zdT_dX0_join_51 rfl
theorem dX0_join_72 : decode cX0_join 72 = .ok (.iaload, 1) := zdcg 13 zdT_dX0_join_51 rfl
theorem dX0_join_73 : decode cX0_join 73 = .ok (.imul, 1) := zdcg 14 zdT_dX0_join_51 rfl
theorem dX0_join_74 : decode cX0_join 74 = .ok (.invokestatic 77, 3) := zdcg 15 zdT_dX0_join_51 rfl
theorem dX0_join_77 : decode cX0_join 77 = .ok (.iastore, 1) := zdcg 16 zdT_dX0_join_51 rfl
theorem dX0_join_78 : decode cX0_join 78 = .ok (.aload_n 0, 1) := zdcg 17 zdT_dX0_join_51 rfl
theorem dX0_join_79 : decode cX0_join 79 = .ok (.dup, 1) := zdcg 18 zdT_dX0_join_51 rfl
theorem dX0_join_80 : decode cX0_join 80 = .ok (.getfield 68, 3) := zdcg 19 zdT_dX0_join_51 rfl
theorem dX0_join_83 : decode cX0_join 83 = .ok (.iconst 1, 1) := zdcg 20 zdT_dX0_join_51 rfl
theorem dX0_join_84 : decode cX0_join 84 = .ok (.iadd, 1) := zdcg 21 zdT_dX0_join_51 rfl
theorem dX0_join_85 : decode cX0_join 85 = .ok (.putfield 68, 3) := zdcg 22 zdT_dX0_join_51 rfl
theorem dX0_join_88 : decode cX0_join 88 = .ok (.aload_n 0, 1) := zdcg 23 zdT_dX0_join_51 rfl
theorem dX0_join_89 : decode cX0_join 89 = .ok (.getfield 29, 3) := zdcg 24 zdT_dX0_join_51 rfl
theorem zdT_dX0_join_92 : zdch cX0_join [(92, (.iload_n 1, 1)), (93, (.iload 4, 2)), (95, (.iastore, 1)), (96, (.aload_n 0, 1)), (97, (.getfield 35, 3)), (100, (.iload 4, 2)), (102, (.dup2, 1)), (103, (.iaload, 1)), (104, (.iconst 1, 1)), (105, (.iadd, 1)), (106, (.iastore, 1)), (107, (.aload_n 0, 1)), (108, (.getfield 38, 3)), (111, (.iload 4, 2)), (113, (.dup2, 1)), (114, (.iaload, 1)), (115, (.iload_n 3, 1)), (116, (.invokestatic 69, 3)), (119, (.iadd, 1)), (120, (.iastore, 1)), (121, (.return_, 1))] = true := by decide +kernel
theorem dX0_join_92 : decode cX0_join 92 = .ok (.iload_n 1, 1) := zdcg 0 zdT_dX0_join_92 rfl
theorem dX0_join_93 : decode cX0_join 93 = .ok (.iload 4, 2) := zdcg 1 zdT_dX0_join_92 rfl
theorem dX0_join_95 : decode cX0_join 95 = .ok (.iastore, 1) := zdcg 2 zdT_dX0_join_92 rfl
theorem dX0_join_96 : decode cX0_join 96 = .ok (.aload_n 0, 1) := zdcg 3 zdT_dX0_join_92 rfl
theorem dX0_join_97 : decode cX0_join 97 = .ok (.getfield 35, 3) := zdcg 4 zdT_dX0_join_92 rfl
theorem dX0_join_100 : decode cX0_join 100 = .ok (.iload 4, 2) := zdcg 5 zdT_dX0_join_92 rfl
theorem dX0_join_102 : decode cX0_join 102 = .ok (.dup2, 1) := zdcg 6 zdT_dX0_join_92 rfl
theorem dX0_join_103 : decode cX0_join 103 = .ok (.iaload, 1) := zdcg 7 zdT_dX0_join_92 rfl
theorem dX0_join_104 : decode cX0_join 104 = .ok (.iconst 1, 1) := zdcg 8 zdT_dX0_join_92 rfl
theorem dX0_join_105 : decode cX0_join 105 = .ok (.iadd, 1) := zdcg 9 zdT_dX0_join_92 rfl
theorem dX0_join_106 : decode cX0_join 106 = .ok (.iastore, 1) := zdcg 10 zdT_dX0_join_92 rfl
theorem dX0_join_107 : decode cX0_join 107 = .ok (.aload_n 0, 1) := zdcg 11 zdT_dX0_join_92 rfl
theorem dX0_join_108 : decode cX0_join 108 = .ok (.getfield 38, 3) := zdcg 12 zdT_dX0_join_92 rfl
theorem dX0_join_111 : decode cX0_join 111 = .ok (.iload 4, 2) := zdcg 13 zdT_dX0_join_92 rfl
theorem dX0_join_113 : decode cX0_join 113 = .ok (.dup2, 1) := zdcg 14 zdT_dX0_join_92 rfl
theorem dX0_join_114 : decode cX0_join 114 = .ok (.iaload, 1) := zdcg 15 zdT_dX0_join_92 rfl
theorem dX0_join_115 : decode cX0_join 115 = .ok (.iload_n 3, 1) := zdcg 16 zdT_dX0_join_92 rfl
theorem dX0_join_116 : decode cX0_join 116 = .ok (.invokestatic 69, 3) := zdcg 17 zdT_dX0_join_92 rfl
theorem dX0_join_119 : decode cX0_join 119 = .ok (.iadd, 1) := zdcg 18 zdT_dX0_join_92 rfl
theorem dX0_join_120 : decode cX0_join 120 = .ok (.iastore, 1) := zdcg 19 zdT_dX0_join_92 rfl
theorem dX0_join_121 : decode cX0_join 121 = .ok (.return_, 1) := zdcg 20 zdT_dX0_join_92 rfl
theorem zdT_dX0_isSameCore_0 : zdch cX0_isSameCore [(0, (.iconst 0, 1)), (1, (.istore_n 2, 1)), (2, (.iload_n 2, 1)), (3, (.aload_n 0, 1)), (4, (.arraylength, 1)), (5, (.if_icmp .ge 26, 3)), (8, (.iload_n 2, 1)), (9, (.aload_n 1, 1)), (10, (.arraylength, 1)), (11, (.if_icmp .ge 20, 3)), (14, (.aload_n 0, 1)), (15, (.iload_n 2, 1)), (16, (.iaload, 1)), (17, (.aload_n 1, 1)), (18, (.iload_n 2, 1)), (19, (.iaload, 1)), (20, (.if_icmp .eq 5, 3)), (23, (.iconst 0, 1)), (24, (.ireturn, 1)), (25, (.iinc 2 1, 3)), (28, (.goto (-26), 3)), (31, (.iconst 1, 1)), (32, (.ireturn, 1))] = true := by decide +kernel
theorem dX0_isSameCore_0 : decode cX0_isSameCore 0 = .ok (.iconst 0, 1) := zdcg 0 zdT_dX0_isSameCore_0 rfl
theorem dX0_isSameCore_1 : decode cX0_isSameCore 1 = .ok (.istore_n 2, 1) := zdcg 1 zdT_dX0_isSameCore_0 rfl
theorem dX0_isSameCore_2 : decode cX0_isSameCore 2 = .ok (.iload_n 2, 1) := zdcg 2 zdT_dX0_isSameCore_0 rfl
theorem dX0_isSameCore_3 : decode cX0_isSameCore 3 = .ok (.aload_n 0, 1) := zdcg 3 zdT_dX0_isSameCore_0 rfl
theorem dX0_isSameCore_4 : decode cX0_isSameCore 4 = .ok (.arraylength, 1) := zdcg 4 zdT_dX0_isSameCore_0 rfl
theorem dX0_isSameCore_5 : decode cX0_isSameCore 5 = .ok (.if_icmp .ge 26, 3) := zdcg 5 zdT_dX0_isSameCore_0 rfl
theorem dX0_isSameCore_8 : decode cX0_isSameCore 8 = .ok (.iload_n 2, 1) := zdcg 6 zdT_dX0_isSameCore_0 rfl
theorem dX0_isSameCore_9 : decode cX0_isSameCore 9 = .ok (.aload_n 1, 1) := zdcg 7 zdT_dX0_isSameCore_0 rfl
theorem dX0_isSameCore_10 : decode cX0_isSameCore 10 = .ok (.arraylength, 1) := zdcg 8 zdT_dX0_isSameCore_0 rfl
theorem dX0_isSameCore_11 : decode cX0_isSameCore 11 = .ok (.if_icmp .ge 20, 3) := zdcg 9 zdT_dX0_isSameCore_0 rfl
theorem dX0_isSameCore_14 : decode cX0_isSameCore 14 = .ok (.aload_n 0, 1) := zdcg 10 zdT_dX0_isSameCore_0 rfl
theorem dX0_isSameCore_15 : decode cX0_isSameCore 15 = .ok (.iload_n 2, 1) := zdcg 11 zdT_dX0_isSameCore_0 rfl
theorem dX0_isSameCore_16 : decode cX0_isSameCore 16 = .ok (.iaload, 1) := zdcg 12 zdT_dX0_isSameCore_0 rfl
theorem dX0_isSameCore_17 : decode cX0_isSameCore 17 = .ok (.aload_n 1, 1) := zdcg 13 zdT_dX0_isSameCore_0 rfl
theorem dX0_isSameCore_18 : decode cX0_isSameCore 18 = .ok (.iload_n 2, 1) := zdcg 14 zdT_dX0_isSameCore_0 rfl
theorem dX0_isSameCore_19 : decode cX0_isSameCore 19 = .ok (.iaload, 1) := zdcg 15 zdT_dX0_isSameCore_0 rfl
theorem dX0_isSameCore_20 : decode cX0_isSameCore 20 = .ok (.if_icmp .eq 5, 3) := zdcg 16 zdT_dX0_isSameCore_0 rfl
theorem dX0_isSameCore_23 : decode cX0_isSameCore 23 = .ok (.iconst 0, 1) := zdcg 17 zdT_dX0_isSameCore_0 rfl
theorem dX0_isSameCore_24 : decode cX0_isSameCore 24 = .ok (.ireturn, 1) := zdcg 18 zdT_dX0_isSameCore_0 rfl
theorem dX0_isSameCore_25 : decode cX0_isSameCore 25 = .ok (.iinc 2 1, 3) := zdcg 19 zdT_dX0_isSameCore_0 rfl
theorem dX0_isSameCore_28 : decode cX0_isSameCore 28 = .ok (.goto (-26), 3) := zdcg 20 zdT_dX0_isSameCore_0 rfl
theorem dX0_isSameCore_31 : decode cX0_isSameCore 31 = .ok (.iconst 1, 1) := zdcg 21 zdT_dX0_isSameCore_0 rfl
theorem dX0_isSameCore_32 : decode cX0_isSameCore 32 = .ok (.ireturn, 1) := zdcg 22 zdT_dX0_isSameCore_0 rfl
theorem zdT_dX0_powerInFactorial_0 : zdch cX0_powerInFactorial [(0, (.iconst 0, 1)), (1, (.istore_n 2, 1)), (2, (.iload_n 0, 1)), (3, (.istore_n 3, 1)), (4, (.iload_n 3, 1)), (5, (.iload_n 1, 1)), (6, (.if_icmp .gt 37, 3)), (9, (.iload_n 3, 1)), (10, (.istore 4, 2)), (12, (.iload 4, 2)), (14, (.ifCond .le 22, 3)), (17, (.iload 4, 2)), (19, (.iload_n 0, 1)), (20, (.irem, 1)), (21, (.ifCond .ne 15, 3)), (24, (.iload 4, 2)), (26, (.iload_n 0, 1)), (27, (.idiv, 1)), (28, (.istore 4, 2)), (30, (.iinc 2 1, 3)), (33, (.goto (-21), 3)), (36, (.iload_n 3, 1)), (37, (.iload_n 0, 1)), (38, (.iadd, 1)), (39, (.istore_n 3, 1))] = true := by decide +kernel
theorem dX0_powerInFactorial_0 : decode cX0_powerInFactorial 0 = .ok (.iconst 0, 1) := zdcg 0 zdT_dX0_powerInFactorial_0 rfl
theorem dX0_powerInFactorial_1 : decode cX0_powerInFactorial 1 = .ok (.istore_n 2, 1) := zdcg 1 zdT_dX0_powerInFactorial_0 rfl
theorem dX0_powerInFactorial_2 : decode cX0_powerInFactorial 2 = .ok (.iload_n 0, 1) := zdcg 2 zdT_dX0_powerInFactorial_0 rfl
theorem dX0_powerInFactorial_3 : decode cX0_powerInFactorial 3 = .ok (.istore_n 3, 1) := zdcg 3 zdT_dX0_powerInFactorial_0 rfl
theorem dX0_powerInFactorial_4 : decode cX0_powerInFactorial 4 = .ok (.iload_n 3, 1) := zdcg 4 zdT_dX0_powerInFactorial_0 rfl
theorem dX0_powerInFactorial_5 : decode cX0_powerInFactorial 5 = .ok (.iload_n 1, 1) := zdcg 5 zdT_dX0_powerInFactorial_0 rfl
theorem dX0_powerInFactorial_6 : decode cX0_powerInFactorial 6 = .ok (.if_icmp .gt 37, 3) := zdcg 6 zdT_dX0_powerInFactorial_0 rfl
theorem dX0_powerInFactorial_9 : decode cX0_powerInFactorial 9 = .ok (.iload_n 3, 1) := zdcg 7 zdT_dX0_powerInFactorial_0 rfl
theorem dX0_powerInFactorial_10 : decode cX0_powerInFactorial 10 = .ok (.istore 4, 2) := zdcg 8 zdT_dX0_powerInFactorial_0 rfl
theorem dX0_powerInFactorial_12 : decode cX0_powerInFactorial 12 = .ok (.iload 4, 2) := zdcg 9 zdT_dX0_powerInFactorial_0 rfl
theorem dX0_powerInFactorial_14 : decode cX0_powerInFactorial 14 = .ok (.ifCond .le 22, 3) := zdcg 10 zdT_dX0_powerInFactorial_0 rfl
theorem dX0_powerInFactorial_17 : decode cX0_powerInFactorial 17 = .ok (.iload 4, 2) := zdcg 11 zdT_dX0_powerInFactorial_0 rfl
theorem dX0_powerInFactorial_19 : decode cX0_powerInFactorial 19 = .ok (.iload_n 0, 1) := zdcg 12 zdT_dX0_powerInFactorial_0 rfl
theorem dX0_powerInFactorial_20 : decode cX0_powerInFactorial 20 = .ok (.irem, 1) := zdcg 13 zdT_dX0_powerInFactorial_0 rfl
theorem dX0_powerInFactorial_21 : decode cX0_powerInFactorial 21 = .ok (.ifCond .ne 15, 3) := zdcg 14 zdT_dX0_powerInFactorial_0 rfl
theorem dX0_powerInFactorial_24 : decode cX0_powerInFactorial 24 = .ok (.iload 4, 2) := zdcg 15 zdT_dX0_powerInFactorial_0 rfl
theorem dX0_powerInFactorial_26 : decode cX0_powerInFactorial 26 = .ok (.iload_n 0, 1) := zdcg 16 zdT_dX0_powerInFactorial_0 rfl
theorem dX0_powerInFactorial_27 : decode cX0_powerInFactorial 27 = .ok (.idiv, 1) := zdcg 17 zdT_dX0_powerInFactorial_0 rfl
theorem dX0_powerInFactorial_28 : decode cX0_powerInFactorial 28 = .ok (.istore 4, 2) := zdcg 18 zdT_dX0_powerInFactorial_0 rfl
theorem dX0_powerInFactorial_30 : decode cX0_powerInFactorial 30 = .ok (.iinc 2 1, 3) := zdcg 19 zdT_dX0_powerInFactorial_0 rfl
theorem dX0_powerInFactorial_33 : decode cX0_powerInFactorial 33 = .ok (.goto (-21), 3) := zdcg 20 zdT_dX0_powerInFactorial_0 rfl
theorem dX0_powerInFactorial_36 : decode cX0_powerInFactorial 36 = .ok (.iload_n 3, 1) := zdcg 21 zdT_dX0_powerInFactorial_0 rfl
theorem dX0_powerInFactorial_37 : decode cX0_powerInFactorial 37 = .ok (.iload_n 0, 1) := zdcg 22 zdT_dX0_powerInFactorial_0 rfl
theorem dX0_powerInFactorial_38 : decode cX0_powerInFactorial 38 = .ok (.iadd, 1) := zdcg 23 zdT_dX0_powerInFactorial_0 rfl
theorem dX0_powerInFactorial_39 : decode cX0_powerInFactorial 39 = .ok (.istore_n 3, 1) := zdcg 24 zdT_dX0_powerInFactorial_0 rfl
theorem zdT_dX0_powerInFactorial_40 : zdch cX0_powerInFactorial [(40, (.goto (-36), 3)), (43, (.iload_n 2, 1)), (44, (.ireturn, 1))] = true := by decide +kernel
theorem dX0_powerInFactorial_40 : decode cX0_powerInFactorial 40 = .ok (.goto (-36), 3) := zdcg 0 zdT_dX0_powerInFactorial_40 rfl
theorem dX0_powerInFactorial_43 : decode cX0_powerInFactorial 43 = .ok (.iload_n 2, 1) := zdcg 1 zdT_dX0_powerInFactorial_40 rfl
theorem dX0_powerInFactorial_44 : decode cX0_powerInFactorial 44 = .ok (.ireturn, 1) := zdcg 2 zdT_dX0_powerInFactorial_40 rfl
theorem zdT_dX1_init_0 : zdch cX1_init [(0, (.aload_n 0, 1)), (1, (.invokespecial 3, 3)), (4, (.aload_n 0, 1)), (5, (.iconst (-1), 1)), (6, (.putfield 9, 3)), (9, (.aload_n 0, 1)), (10, (.bipush 15, 2)), (12, (.newarray .int, 2)), (14, (.putfield 17, 3)), (17, (.return_, 1))] = true := by decide +kernel
theorem dX1_init_0 : decode cX1_init 0 = .ok (.aload_n 0, 1) := zdcg 0 zdT_dX1_init_0 rfl
theorem dX1_init_1 : decode cX1_init 1 = .ok (.invokespecial 3, 3) := zdcg 1 zdT_dX1_init_0 rfl
theorem dX1_init_4 : decode cX1_init 4 = .ok (.aload_n 0, 1) := zdcg 2 zdT_dX1_init_0 rfl
theorem dX1_init_5 : decode cX1_init 5 = .ok (.iconst (-1), 1) := zdcg 3 zdT_dX1_init_0 rfl
theorem dX1_init_6 : decode cX1_init 6 = .ok (.putfield 9, 3) := zdcg 4 zdT_dX1_init_0 rfl
theorem dX1_init_9 : decode cX1_init 9 = .ok (.aload_n 0, 1) := zdcg 5 zdT_dX1_init_0 rfl
theorem dX1_init_10 : decode cX1_init 10 = .ok (.bipush 15, 2) := zdcg 6 zdT_dX1_init_0 rfl
theorem dX1_init_12 : decode cX1_init 12 = .ok (.newarray .int, 2) := zdcg 7 zdT_dX1_init_0 rfl
theorem dX1_init_14 : decode cX1_init 14 = .ok (.putfield 17, 3) := zdcg 8 zdT_dX1_init_0 rfl
theorem dX1_init_17 : decode cX1_init 17 = .ok (.return_, 1) := zdcg 9 zdT_dX1_init_0 rfl
theorem zdT_dX1_clear_0 : zdch cX1_clear [(0, (.aload_n 0, 1)), (1, (.iconst 0, 1)), (2, (.putfield 21, 3)), (5, (.aload_n 0, 1)), (6, (.iconst (-1), 1)), (7, (.putfield 9, 3)), (10, (.aload_n 0, 1)), (11, (.iconst 0, 1)), (12, (.putfield 24, 3)), (15, (.return_, 1))] = true := by decide +kernel
theorem dX1_clear_0 : decode cX1_clear 0 = .ok (.aload_n 0, 1) := zdcg 0 zdT_dX1_clear_0 rfl
theorem dX1_clear_1 : decode cX1_clear 1 = .ok (.iconst 0, 1) := zdcg 1 zdT_dX1_clear_0 rfl
theorem dX1_clear_2 : decode cX1_clear 2 = .ok (.putfield 21, 3) := zdcg 2 zdT_dX1_clear_0 rfl
theorem dX1_clear_5 : decode cX1_clear 5 = .ok (.aload_n 0, 1) := zdcg 3 zdT_dX1_clear_0 rfl
theorem dX1_clear_6 : decode cX1_clear 6 = .ok (.iconst (-1), 1) := zdcg 4 zdT_dX1_clear_0 rfl
theorem dX1_clear_7 : decode cX1_clear 7 = .ok (.putfield 9, 3) := zdcg 5 zdT_dX1_clear_0 rfl
theorem dX1_clear_10 : decode cX1_clear 10 = .ok (.aload_n 0, 1) := zdcg 6 zdT_dX1_clear_0 rfl
theorem dX1_clear_11 : decode cX1_clear 11 = .ok (.iconst 0, 1) := zdcg 7 zdT_dX1_clear_0 rfl
theorem dX1_clear_12 : decode cX1_clear 12 = .ok (.putfield 24, 3) := zdcg 8 zdT_dX1_clear_0 rfl
theorem dX1_clear_15 : decode cX1_clear 15 = .ok (.return_, 1) := zdcg 9 zdT_dX1_clear_0 rfl
theorem zdT_dX1_tell_0 : zdch cX1_tell [(0, (.aload_n 0, 1)), (1, (.iload_n 1, 1)), (2, (.putfield 21, 3)), (5, (.aload_n 0, 1)), (6, (.iload_n 2, 1)), (7, (.putfield 9, 3)), (10, (.aload_n 0, 1)), (11, (.iconst 0, 1)), (12, (.putfield 24, 3)), (15, (.return_, 1))] = true := by decide +kernel
theorem dX1_tell_0 : decode cX1_tell 0 = .ok (.aload_n 0, 1) := zdcg 0 zdT_dX1_tell_0 rfl
theorem dX1_tell_1 : decode cX1_tell 1 = .ok (.iload_n 1, 1) := zdcg 1 zdT_dX1_tell_0 rfl
theorem dX1_tell_2 : decode cX1_tell 2 = .ok (.putfield 21, 3) := zdcg 2 zdT_dX1_tell_0 rfl
theorem dX1_tell_5 : decode cX1_tell 5 = .ok (.aload_n 0, 1) := zdcg 3 zdT_dX1_tell_0 rfl
theorem dX1_tell_6 : decode cX1_tell 6 = .ok (.iload_n 2, 1) := zdcg 4 zdT_dX1_tell_0 rfl
theorem dX1_tell_7 : decode cX1_tell 7 = .ok (.putfield 9, 3) := zdcg 5 zdT_dX1_tell_0 rfl
theorem dX1_tell_10 : decode cX1_tell 10 = .ok (.aload_n 0, 1) := zdcg 6 zdT_dX1_tell_0 rfl
theorem dX1_tell_11 : decode cX1_tell 11 = .ok (.iconst 0, 1) := zdcg 7 zdT_dX1_tell_0 rfl
theorem dX1_tell_12 : decode cX1_tell 12 = .ok (.putfield 24, 3) := zdcg 8 zdT_dX1_tell_0 rfl
theorem dX1_tell_15 : decode cX1_tell 15 = .ok (.return_, 1) := zdcg 9 zdT_dX1_tell_0 rfl
theorem zdT_dX1_addWithin_0 : zdch cX1_addWithin [(0, (.aload_n 0, 1)), (1, (.getfield 24, 3)), (4, (.aload_n 0, 1)), (5, (.getfield 17, 3)), (8, (.arraylength, 1)), (9, (.if_icmp .ge 23, 3)), (12, (.aload_n 0, 1)), (13, (.getfield 17, 3)), (16, (.aload_n 0, 1)), (17, (.getfield 24, 3)), (20, (.iload_n 1, 1)), (21, (.iastore, 1)), (22, (.aload_n 0, 1)), (23, (.dup, 1)), (24, (.getfield 24, 3)), (27, (.iconst 1, 1)), (28, (.iadd, 1)), (29, (.putfield 24, 3)), (32, (.return_, 1))] = true := by decide +kernel
theorem dX1_addWithin_0 : decode cX1_addWithin 0 = .ok (.aload_n 0, 1) := zdcg 0 zdT_dX1_addWithin_0 rfl
theorem dX1_addWithin_1 : decode cX1_addWithin 1 = .ok (.getfield 24, 3) := zdcg 1 zdT_dX1_addWithin_0 rfl
theorem dX1_addWithin_4 : decode cX1_addWithin 4 = .ok (.aload_n 0, 1) := zdcg 2 zdT_dX1_addWithin_0 rfl
theorem dX1_addWithin_5 : decode cX1_addWithin 5 = .ok (.getfield 17, 3) := zdcg 3 zdT_dX1_addWithin_0 rfl
theorem dX1_addWithin_8 : decode cX1_addWithin 8 = .ok (.arraylength, 1) := zdcg 4 zdT_dX1_addWithin_0 rfl
theorem dX1_addWithin_9 : decode cX1_addWithin 9 = .ok (.if_icmp .ge 23, 3) := zdcg 5 zdT_dX1_addWithin_0 rfl
theorem dX1_addWithin_12 : decode cX1_addWithin 12 = .ok (.aload_n 0, 1) := zdcg 6 zdT_dX1_addWithin_0 rfl
theorem dX1_addWithin_13 : decode cX1_addWithin 13 = .ok (.getfield 17, 3) := zdcg 7 zdT_dX1_addWithin_0 rfl
theorem dX1_addWithin_16 : decode cX1_addWithin 16 = .ok (.aload_n 0, 1) := zdcg 8 zdT_dX1_addWithin_0 rfl
theorem dX1_addWithin_17 : decode cX1_addWithin 17 = .ok (.getfield 24, 3) := zdcg 9 zdT_dX1_addWithin_0 rfl
theorem dX1_addWithin_20 : decode cX1_addWithin 20 = .ok (.iload_n 1, 1) := zdcg 10 zdT_dX1_addWithin_0 rfl
theorem dX1_addWithin_21 : decode cX1_addWithin 21 = .ok (.iastore, 1) := zdcg 11 zdT_dX1_addWithin_0 rfl
theorem dX1_addWithin_22 : decode cX1_addWithin 22 = .ok (.aload_n 0, 1) := zdcg 12 zdT_dX1_addWithin_0 rfl
theorem dX1_addWithin_23 : decode cX1_addWithin 23 = .ok (.dup, 1) := zdcg 13 zdT_dX1_addWithin_0 rfl
theorem dX1_addWithin_24 : decode cX1_addWithin 24 = .ok (.getfield 24, 3) := zdcg 14 zdT_dX1_addWithin_0 rfl
theorem dX1_addWithin_27 : decode cX1_addWithin 27 = .ok (.iconst 1, 1) := zdcg 15 zdT_dX1_addWithin_0 rfl
theorem dX1_addWithin_28 : decode cX1_addWithin 28 = .ok (.iadd, 1) := zdcg 16 zdT_dX1_addWithin_0 rfl
theorem dX1_addWithin_29 : decode cX1_addWithin 29 = .ok (.putfield 24, 3) := zdcg 17 zdT_dX1_addWithin_0 rfl
theorem dX1_addWithin_32 : decode cX1_addWithin 32 = .ok (.return_, 1) := zdcg 18 zdT_dX1_addWithin_0 rfl
theorem zdT_dX2_init_0 : zdch cX2_init [(0, (.aload_n 0, 1)), (1, (.invokespecial 3, 3)), (4, (.aload_n 0, 1)), (5, (.new 9, 3)), (8, (.dup, 1)), (9, (.invokespecial 11, 3)), (12, (.putfield 12, 3)), (15, (.aload_n 0, 1)), (16, (.iconst 5, 1)), (17, (.bipush 11, 2)), (19, (.multianewarray 18 2, 4)), (23, (.putfield 20, 3)), (26, (.aload_n 0, 1)), (27, (.iconst 5, 1)), (28, (.bipush 11, 2)), (30, (.multianewarray 18 2, 4)), (34, (.putfield 23, 3)), (37, (.aload_n 0, 1)), (38, (.iconst 5, 1)), (39, (.bipush 11, 2)), (41, (.multianewarray 18 2, 4)), (45, (.putfield 26, 3)), (48, (.aload_n 0, 1)), (49, (.iconst 5, 1)), (50, (.newarray .int, 2))] = true := by decide +kernel
theorem dX2_init_0 : decode cX2_init 0 = .ok (.aload_n 0, 1) := zdcg 0 zdT_dX2_init_0 rfl
theorem dX2_init_1 : decode cX2_init 1 = .ok (.invokespecial 3, 3) := zdcg 1 zdT_dX2_init_0 rfl
theorem dX2_init_4 : decode cX2_init 4 = .ok (.aload_n 0, 1) := zdcg 2 zdT_dX2_init_0 rfl
theorem dX2_init_5 : decode cX2_init 5 = .ok (.new 9, 3) := zdcg 3 zdT_dX2_init_0 rfl
theorem dX2_init_8 : decode cX2_init 8 = .ok (.dup, 1) := zdcg 4 zdT_dX2_init_0 rfl
theorem dX2_init_9 : decode cX2_init 9 = .ok (.invokespecial 11, 3) := zdcg 5 zdT_dX2_init_0 rfl
theorem dX2_init_12 : decode cX2_init 12 = .ok (.putfield 12, 3) := zdcg 6 zdT_dX2_init_0 rfl
theorem dX2_init_15 : decode cX2_init 15 = .ok (.aload_n 0, 1) := zdcg 7 zdT_dX2_init_0 rfl
theorem dX2_init_16 : decode cX2_init 16 = .ok (.iconst 5, 1) := zdcg 8 zdT_dX2_init_0 rfl
theorem dX2_init_17 : decode cX2_init 17 = .ok (.bipush 11, 2) := zdcg 9 zdT_dX2_init_0 rfl
theorem dX2_init_19 : decode cX2_init 19 = .ok (.multianewarray 18 2, 4) := zdcg 10 zdT_dX2_init_0 rfl
theorem dX2_init_23 : decode cX2_init 23 = .ok (.putfield 20, 3) := zdcg 11 zdT_dX2_init_0 rfl
theorem dX2_init_26 : decode cX2_init 26 = .ok (.aload_n 0, 1) := zdcg 12 zdT_dX2_init_0 rfl
theorem dX2_init_27 : decode cX2_init 27 = .ok (.iconst 5, 1) := zdcg 13 zdT_dX2_init_0 rfl
theorem dX2_init_28 : decode cX2_init 28 = .ok (.bipush 11, 2) := zdcg 14 zdT_dX2_init_0 rfl
theorem dX2_init_30 : decode cX2_init 30 = .ok (.multianewarray 18 2, 4) := zdcg 15 zdT_dX2_init_0 rfl
theorem dX2_init_34 : decode cX2_init 34 = .ok (.putfield 23, 3) := zdcg 16 zdT_dX2_init_0 rfl
theorem dX2_init_37 : decode cX2_init 37 = .ok (.aload_n 0, 1) := zdcg 17 zdT_dX2_init_0 rfl
theorem dX2_init_38 : decode cX2_init 38 = .ok (.iconst 5, 1) := zdcg 18 zdT_dX2_init_0 rfl
theorem dX2_init_39 : decode cX2_init 39 = .ok (.bipush 11, 2) := zdcg 19 zdT_dX2_init_0 rfl
theorem dX2_init_41 : decode cX2_init 41 = .ok (.multianewarray 18 2, 4) := zdcg 20 zdT_dX2_init_0 rfl
theorem dX2_init_45 : decode cX2_init 45 = .ok (.putfield 26, 3) := zdcg 21 zdT_dX2_init_0 rfl
theorem dX2_init_48 : decode cX2_init 48 = .ok (.aload_n 0, 1) := zdcg 22 zdT_dX2_init_0 rfl
theorem dX2_init_49 : decode cX2_init 49 = .ok (.iconst 5, 1) := zdcg 23 zdT_dX2_init_0 rfl
theorem dX2_init_50 : decode cX2_init 50 = .ok (.newarray .int, 2) := zdcg 24 zdT_dX2_init_0 rfl
theorem zdT_dX2_init_52 : zdch cX2_init [(52, (.putfield 29, 3)), (55, (.aload_n 0, 1)), (56, (.iconst 5, 1)), (57, (.newarray .int, 2)), (59, (.putfield 33, 3)), (62, (.aload_n 0, 1)), (63, (.iconst 5, 1)), (64, (.newarray .int, 2)), (66, (.putfield 36, 3)), (69, (.aload_n 0, 1)), (70, (.bipush 6, 2)), (72, (.newarray .int, 2)), (74, (.putfield 39, 3)), (77, (.aload_n 0, 1)), (78, (.aload_n 1, 1)), (79, (.putfield 42, 3)), (82, (.aload_n 0, 1)), (83, (.aload_n 2, 1)), (84, (.putfield 46, 3)), (87, (.aload_n 0, 1)), (88, (.aload_n 3, 1)), (89, (.putfield 49, 3)), (92, (.aload_n 0, 1)), (93, (.aload 4, 2)), (95, (.putfield 53, 3))] = true := by decide +kernel
theorem dX2_init_52 : decode cX2_init 52 = .ok (.putfield 29, 3) := zdcg 0 zdT_dX2_init_52 rfl
theorem dX2_init_55 : decode cX2_init 55 = .ok (.aload_n 0, 1) := zdcg 1 zdT_dX2_init_52 rfl
theorem dX2_init_56 : decode cX2_init 56 = .ok (.iconst 5, 1) := zdcg 2 zdT_dX2_init_52 rfl
theorem dX2_init_57 : decode cX2_init 57 = .ok (.newarray .int, 2) := zdcg 3 zdT_dX2_init_52 rfl
theorem dX2_init_59 : decode cX2_init 59 = .ok (.putfield 33, 3) := zdcg 4 zdT_dX2_init_52 rfl
theorem dX2_init_62 : decode cX2_init 62 = .ok (.aload_n 0, 1) := zdcg 5 zdT_dX2_init_52 rfl
theorem dX2_init_63 : decode cX2_init 63 = .ok (.iconst 5, 1) := zdcg 6 zdT_dX2_init_52 rfl
theorem dX2_init_64 : decode cX2_init 64 = .ok (.newarray .int, 2) := zdcg 7 zdT_dX2_init_52 rfl
theorem dX2_init_66 : decode cX2_init 66 = .ok (.putfield 36, 3) := zdcg 8 zdT_dX2_init_52 rfl
theorem dX2_init_69 : decode cX2_init 69 = .ok (.aload_n 0, 1) := zdcg 9 zdT_dX2_init_52 rfl
theorem dX2_init_70 : decode cX2_init 70 = .ok (.bipush 6, 2) := zdcg 10 zdT_dX2_init_52 rfl
theorem dX2_init_72 : decode cX2_init 72 = .ok (.newarray .int, 2) := zdcg 11 zdT_dX2_init_52 rfl
theorem dX2_init_74 : decode cX2_init 74 = .ok (.putfield 39, 3) := zdcg 12 zdT_dX2_init_52 rfl
theorem dX2_init_77 : decode cX2_init 77 = .ok (.aload_n 0, 1) := zdcg 13 zdT_dX2_init_52 rfl
theorem dX2_init_78 : decode cX2_init 78 = .ok (.aload_n 1, 1) := zdcg 14 zdT_dX2_init_52 rfl
theorem dX2_init_79 : decode cX2_init 79 = .ok (.putfield 42, 3) := zdcg 15 zdT_dX2_init_52 rfl
theorem dX2_init_82 : decode cX2_init 82 = .ok (.aload_n 0, 1) := zdcg 16 zdT_dX2_init_52 rfl
theorem dX2_init_83 : decode cX2_init 83 = .ok (.aload_n 2, 1) := zdcg 17 zdT_dX2_init_52 rfl
theorem dX2_init_84 : decode cX2_init 84 = .ok (.putfield 46, 3) := zdcg 18 zdT_dX2_init_52 rfl
theorem dX2_init_87 : decode cX2_init 87 = .ok (.aload_n 0, 1) := zdcg 19 zdT_dX2_init_52 rfl
theorem dX2_init_88 : decode cX2_init 88 = .ok (.aload_n 3, 1) := zdcg 20 zdT_dX2_init_52 rfl
theorem dX2_init_89 : decode cX2_init 89 = .ok (.putfield 49, 3) := zdcg 21 zdT_dX2_init_52 rfl
theorem dX2_init_92 : decode cX2_init 92 = .ok (.aload_n 0, 1) := zdcg 22 zdT_dX2_init_52 rfl
theorem dX2_init_93 : decode cX2_init 93 = .ok (.aload 4, 2) := zdcg 23 zdT_dX2_init_52 rfl
theorem dX2_init_95 : decode cX2_init 95 = .ok (.putfield 53, 3) := zdcg 24 zdT_dX2_init_52 rfl
theorem zdT_dX2_init_98 : zdch cX2_init [(98, (.return_, 1))] = true := by decide +kernel
theorem dX2_init_98 : decode cX2_init 98 = .ok (.return_, 1) := zdcg 0 zdT_dX2_init_98 rfl
theorem zdT_dX2_turnTo_0 : zdch cX2_turnTo [(0, (.aload_n 0, 1)), (1, (.aload_n 1, 1)), (2, (.putfield 49, 3)), (5, (.aload_n 0, 1)), (6, (.aload_n 2, 1)), (7, (.putfield 53, 3)), (10, (.return_, 1))] = true := by decide +kernel
theorem dX2_turnTo_0 : decode cX2_turnTo 0 = .ok (.aload_n 0, 1) := zdcg 0 zdT_dX2_turnTo_0 rfl
theorem dX2_turnTo_1 : decode cX2_turnTo 1 = .ok (.aload_n 1, 1) := zdcg 1 zdT_dX2_turnTo_0 rfl
theorem dX2_turnTo_2 : decode cX2_turnTo 2 = .ok (.putfield 49, 3) := zdcg 2 zdT_dX2_turnTo_0 rfl
theorem dX2_turnTo_5 : decode cX2_turnTo 5 = .ok (.aload_n 0, 1) := zdcg 3 zdT_dX2_turnTo_0 rfl
theorem dX2_turnTo_6 : decode cX2_turnTo 6 = .ok (.aload_n 2, 1) := zdcg 4 zdT_dX2_turnTo_0 rfl
theorem dX2_turnTo_7 : decode cX2_turnTo 7 = .ok (.putfield 53, 3) := zdcg 5 zdT_dX2_turnTo_0 rfl
theorem dX2_turnTo_10 : decode cX2_turnTo 10 = .ok (.return_, 1) := zdcg 6 zdT_dX2_turnTo_0 rfl
theorem zdT_dX2_read_0 : zdch cX2_read [(0, (.aload_n 0, 1)), (1, (.getfield 12, 3)), (4, (.invokevirtual 57, 3)), (7, (.aload_n 0, 1)), (8, (.iconst 0, 1)), (9, (.putfield 60, 3)), (12, (.aload_n 0, 1)), (13, (.getfield 20, 3)), (16, (.iconst 0, 1)), (17, (.aaload, 1)), (18, (.lconst 0, 1)), (19, (.invokestatic 64, 3)), (22, (.aload_n 0, 1)), (23, (.iconst 0, 1)), (24, (.invokevirtual 70, 3)), (27, (.ifCond .eq 26, 3)), (30, (.aload_n 0, 1)), (31, (.invokevirtual 74, 3)), (34, (.iconst (-1), 1)), (35, (.if_icmp .eq 14, 3)), (38, (.aload_n 0, 1)), (39, (.aload_n 0, 1)), (40, (.getfield 60, 3)), (43, (.invokevirtual 78, 3)), (46, (.ifCond .eq 7, 3))] = true := by decide +kernel
theorem dX2_read_0 : decode cX2_read 0 = .ok (.aload_n 0, 1) := zdcg 0 zdT_dX2_read_0 rfl
theorem dX2_read_1 : decode cX2_read 1 = .ok (.getfield 12, 3) := zdcg 1 zdT_dX2_read_0 rfl
theorem dX2_read_4 : decode cX2_read 4 = .ok (.invokevirtual 57, 3) := zdcg 2 zdT_dX2_read_0 rfl
theorem dX2_read_7 : decode cX2_read 7 = .ok (.aload_n 0, 1) := zdcg 3 zdT_dX2_read_0 rfl
theorem dX2_read_8 : decode cX2_read 8 = .ok (.iconst 0, 1) := zdcg 4 zdT_dX2_read_0 rfl
theorem dX2_read_9 : decode cX2_read 9 = .ok (.putfield 60, 3) := zdcg 5 zdT_dX2_read_0 rfl
theorem dX2_read_12 : decode cX2_read 12 = .ok (.aload_n 0, 1) := zdcg 6 zdT_dX2_read_0 rfl
theorem dX2_read_13 : decode cX2_read 13 = .ok (.getfield 20, 3) := zdcg 7 zdT_dX2_read_0 rfl
theorem dX2_read_16 : decode cX2_read 16 = .ok (.iconst 0, 1) := zdcg 8 zdT_dX2_read_0 rfl
theorem dX2_read_17 : decode cX2_read 17 = .ok (.aaload, 1) := zdcg 9 zdT_dX2_read_0 rfl
theorem dX2_read_18 : decode cX2_read 18 = .ok (.lconst 0, 1) := zdcg 10 zdT_dX2_read_0 rfl
theorem dX2_read_19 : decode cX2_read 19 = .ok (.invokestatic 64, 3) := zdcg 11 zdT_dX2_read_0 rfl
theorem dX2_read_22 : decode cX2_read 22 = .ok (.aload_n 0, 1) := zdcg 12 zdT_dX2_read_0 rfl
theorem dX2_read_23 : decode cX2_read 23 = .ok (.iconst 0, 1) := zdcg 13 zdT_dX2_read_0 rfl
theorem dX2_read_24 : decode cX2_read 24 = .ok (.invokevirtual 70, 3) := zdcg 14 zdT_dX2_read_0 rfl
theorem dX2_read_27 : decode cX2_read 27 = .ok (.ifCond .eq 26, 3) := zdcg 15 zdT_dX2_read_0 rfl
theorem dX2_read_30 : decode cX2_read 30 = .ok (.aload_n 0, 1) := zdcg 16 zdT_dX2_read_0 rfl
theorem dX2_read_31 : decode cX2_read 31 = .ok (.invokevirtual 74, 3) := zdcg 17 zdT_dX2_read_0 rfl
theorem dX2_read_34 : decode cX2_read 34 = .ok (.iconst (-1), 1) := zdcg 18 zdT_dX2_read_0 rfl
theorem dX2_read_35 : decode cX2_read 35 = .ok (.if_icmp .eq 14, 3) := zdcg 19 zdT_dX2_read_0 rfl
theorem dX2_read_38 : decode cX2_read 38 = .ok (.aload_n 0, 1) := zdcg 20 zdT_dX2_read_0 rfl
theorem dX2_read_39 : decode cX2_read 39 = .ok (.aload_n 0, 1) := zdcg 21 zdT_dX2_read_0 rfl
theorem dX2_read_40 : decode cX2_read 40 = .ok (.getfield 60, 3) := zdcg 22 zdT_dX2_read_0 rfl
theorem dX2_read_43 : decode cX2_read 43 = .ok (.invokevirtual 78, 3) := zdcg 23 zdT_dX2_read_0 rfl
theorem dX2_read_46 : decode cX2_read 46 = .ok (.ifCond .eq 7, 3) := zdcg 24 zdT_dX2_read_0 rfl
theorem zdT_dX2_read_49 : zdch cX2_read [(49, (.iconst 1, 1)), (50, (.goto 4, 3)), (53, (.iconst 0, 1)), (54, (.ireturn, 1))] = true := by decide +kernel
theorem dX2_read_49 : decode cX2_read 49 = .ok (.iconst 1, 1) := zdcg 0 zdT_dX2_read_49 rfl
theorem dX2_read_50 : decode cX2_read 50 = .ok (.goto 4, 3) := zdcg 1 zdT_dX2_read_49 rfl
theorem dX2_read_53 : decode cX2_read 53 = .ok (.iconst 0, 1) := zdcg 2 zdT_dX2_read_49 rfl
theorem dX2_read_54 : decode cX2_read 54 = .ok (.ireturn, 1) := zdcg 3 zdT_dX2_read_49 rfl
theorem zdT_dX2_next_0 : zdch cX2_next [(0, (.aload_n 0, 1)), (1, (.getfield 60, 3)), (4, (.aload_n 0, 1)), (5, (.getfield 42, 3)), (8, (.getfield 81, 3)), (11, (.if_icmp .ge 50, 3)), (14, (.aload_n 0, 1)), (15, (.getfield 42, 3)), (18, (.getfield 86, 3)), (21, (.aload_n 0, 1)), (22, (.getfield 60, 3)), (25, (.iaload, 1)), (26, (.bipush 32, 2)), (28, (.if_icmp .eq 20, 3)), (31, (.aload_n 0, 1)), (32, (.getfield 42, 3)), (35, (.getfield 86, 3)), (38, (.aload_n 0, 1)), (39, (.getfield 60, 3)), (42, (.iaload, 1)), (43, (.bipush 10, 2)), (45, (.if_icmp .ne 16, 3)), (48, (.aload_n 0, 1)), (49, (.dup, 1)), (50, (.getfield 60, 3))] = true := by decide +kernel
theorem dX2_next_0 : decode cX2_next 0 = .ok (.aload_n 0, 1) := zdcg 0 zdT_dX2_next_0 rfl
theorem dX2_next_1 : decode cX2_next 1 = .ok (.getfield 60, 3) := zdcg 1 zdT_dX2_next_0 rfl
theorem dX2_next_4 : decode cX2_next 4 = .ok (.aload_n 0, 1) := zdcg 2 zdT_dX2_next_0 rfl
theorem dX2_next_5 : decode cX2_next 5 = .ok (.getfield 42, 3) := zdcg 3 zdT_dX2_next_0 rfl
theorem dX2_next_8 : decode cX2_next 8 = .ok (.getfield 81, 3) := zdcg 4 zdT_dX2_next_0 rfl
theorem dX2_next_11 : decode cX2_next 11 = .ok (.if_icmp .ge 50, 3) := zdcg 5 zdT_dX2_next_0 rfl
theorem dX2_next_14 : decode cX2_next 14 = .ok (.aload_n 0, 1) := zdcg 6 zdT_dX2_next_0 rfl
theorem dX2_next_15 : decode cX2_next 15 = .ok (.getfield 42, 3) := zdcg 7 zdT_dX2_next_0 rfl
theorem dX2_next_18 : decode cX2_next 18 = .ok (.getfield 86, 3) := zdcg 8 zdT_dX2_next_0 rfl
theorem dX2_next_21 : decode cX2_next 21 = .ok (.aload_n 0, 1) := zdcg 9 zdT_dX2_next_0 rfl
theorem dX2_next_22 : decode cX2_next 22 = .ok (.getfield 60, 3) := zdcg 10 zdT_dX2_next_0 rfl
theorem dX2_next_25 : decode cX2_next 25 = .ok (.iaload, 1) := zdcg 11 zdT_dX2_next_0 rfl
theorem dX2_next_26 : decode cX2_next 26 = .ok (.bipush 32, 2) := zdcg 12 zdT_dX2_next_0 rfl
theorem dX2_next_28 : decode cX2_next 28 = .ok (.if_icmp .eq 20, 3) := zdcg 13 zdT_dX2_next_0 rfl
theorem dX2_next_31 : decode cX2_next 31 = .ok (.aload_n 0, 1) := zdcg 14 zdT_dX2_next_0 rfl
theorem dX2_next_32 : decode cX2_next 32 = .ok (.getfield 42, 3) := zdcg 15 zdT_dX2_next_0 rfl
theorem dX2_next_35 : decode cX2_next 35 = .ok (.getfield 86, 3) := zdcg 16 zdT_dX2_next_0 rfl
theorem dX2_next_38 : decode cX2_next 38 = .ok (.aload_n 0, 1) := zdcg 17 zdT_dX2_next_0 rfl
theorem dX2_next_39 : decode cX2_next 39 = .ok (.getfield 60, 3) := zdcg 18 zdT_dX2_next_0 rfl
theorem dX2_next_42 : decode cX2_next 42 = .ok (.iaload, 1) := zdcg 19 zdT_dX2_next_0 rfl
theorem dX2_next_43 : decode cX2_next 43 = .ok (.bipush 10, 2) := zdcg 20 zdT_dX2_next_0 rfl
theorem dX2_next_45 : decode cX2_next 45 = .ok (.if_icmp .ne 16, 3) := zdcg 21 zdT_dX2_next_0 rfl
theorem dX2_next_48 : decode cX2_next 48 = .ok (.aload_n 0, 1) := zdcg 22 zdT_dX2_next_0 rfl
theorem dX2_next_49 : decode cX2_next 49 = .ok (.dup, 1) := zdcg 23 zdT_dX2_next_0 rfl
theorem dX2_next_50 : decode cX2_next 50 = .ok (.getfield 60, 3) := zdcg 24 zdT_dX2_next_0 rfl
theorem zdT_dX2_next_53 : zdch cX2_next [(53, (.iconst 1, 1)), (54, (.iadd, 1)), (55, (.putfield 60, 3)), (58, (.goto (-58), 3)), (61, (.aload_n 0, 1)), (62, (.getfield 60, 3)), (65, (.aload_n 0, 1)), (66, (.getfield 42, 3)), (69, (.getfield 81, 3)), (72, (.if_icmp .ge 18, 3)), (75, (.aload_n 0, 1)), (76, (.getfield 42, 3)), (79, (.getfield 86, 3)), (82, (.aload_n 0, 1)), (83, (.getfield 60, 3)), (86, (.iaload, 1)), (87, (.goto 4, 3)), (90, (.iconst (-1), 1)), (91, (.ireturn, 1))] = true := by decide +kernel
theorem dX2_next_53 : decode cX2_next 53 = .ok (.iconst 1, 1) := zdcg 0 zdT_dX2_next_53 rfl
theorem dX2_next_54 : decode cX2_next 54 = .ok (.iadd, 1) := zdcg 1 zdT_dX2_next_53 rfl
theorem dX2_next_55 : decode cX2_next 55 = .ok (.putfield 60, 3) := zdcg 2 zdT_dX2_next_53 rfl
theorem dX2_next_58 : decode cX2_next 58 = .ok (.goto (-58), 3) := zdcg 3 zdT_dX2_next_53 rfl
theorem dX2_next_61 : decode cX2_next 61 = .ok (.aload_n 0, 1) := zdcg 4 zdT_dX2_next_53 rfl
theorem dX2_next_62 : decode cX2_next 62 = .ok (.getfield 60, 3) := zdcg 5 zdT_dX2_next_53 rfl
theorem dX2_next_65 : decode cX2_next 65 = .ok (.aload_n 0, 1) := zdcg 6 zdT_dX2_next_53 rfl
theorem dX2_next_66 : decode cX2_next 66 = .ok (.getfield 42, 3) := zdcg 7 zdT_dX2_next_53 rfl
theorem dX2_next_69 : decode cX2_next 69 = .ok (.getfield 81, 3) := zdcg 8 zdT_dX2_next_53 rfl
theorem dX2_next_72 : decode cX2_next 72 = .ok (.if_icmp .ge 18, 3) := zdcg 9 zdT_dX2_next_53 rfl
theorem dX2_next_75 : decode cX2_next 75 = .ok (.aload_n 0, 1) := zdcg 10 zdT_dX2_next_53 rfl
theorem dX2_next_76 : decode cX2_next 76 = .ok (.getfield 42, 3) := zdcg 11 zdT_dX2_next_53 rfl
theorem dX2_next_79 : decode cX2_next 79 = .ok (.getfield 86, 3) := zdcg 12 zdT_dX2_next_53 rfl
theorem dX2_next_82 : decode cX2_next 82 = .ok (.aload_n 0, 1) := zdcg 13 zdT_dX2_next_53 rfl
theorem dX2_next_83 : decode cX2_next 83 = .ok (.getfield 60, 3) := zdcg 14 zdT_dX2_next_53 rfl
theorem dX2_next_86 : decode cX2_next 86 = .ok (.iaload, 1) := zdcg 15 zdT_dX2_next_53 rfl
theorem dX2_next_87 : decode cX2_next 87 = .ok (.goto 4, 3) := zdcg 16 zdT_dX2_next_53 rfl
theorem dX2_next_90 : decode cX2_next 90 = .ok (.iconst (-1), 1) := zdcg 17 zdT_dX2_next_53 rfl
theorem dX2_next_91 : decode cX2_next 91 = .ok (.ireturn, 1) := zdcg 18 zdT_dX2_next_53 rfl
theorem zdT_dX2_refuse_0 : zdch cX2_refuse [(0, (.aload_n 0, 1)), (1, (.getfield 12, 3)), (4, (.iconst 1, 1)), (5, (.iload_n 1, 1)), (6, (.invokevirtual 89, 3)), (9, (.iconst 0, 1)), (10, (.ireturn, 1))] = true := by decide +kernel
theorem dX2_refuse_0 : decode cX2_refuse 0 = .ok (.aload_n 0, 1) := zdcg 0 zdT_dX2_refuse_0 rfl
theorem dX2_refuse_1 : decode cX2_refuse 1 = .ok (.getfield 12, 3) := zdcg 1 zdT_dX2_refuse_0 rfl
theorem dX2_refuse_4 : decode cX2_refuse 4 = .ok (.iconst 1, 1) := zdcg 2 zdT_dX2_refuse_0 rfl
theorem dX2_refuse_5 : decode cX2_refuse 5 = .ok (.iload_n 1, 1) := zdcg 3 zdT_dX2_refuse_0 rfl
theorem dX2_refuse_6 : decode cX2_refuse 6 = .ok (.invokevirtual 89, 3) := zdcg 4 zdT_dX2_refuse_0 rfl
theorem dX2_refuse_9 : decode cX2_refuse 9 = .ok (.iconst 0, 1) := zdcg 5 zdT_dX2_refuse_0 rfl
theorem dX2_refuse_10 : decode cX2_refuse 10 = .ok (.ireturn, 1) := zdcg 6 zdT_dX2_refuse_0 rfl
theorem zdT_dX2_fail_0 : zdch cX2_fail [(0, (.aload_n 0, 1)), (1, (.getfield 12, 3)), (4, (.iload_n 1, 1)), (5, (.iload_n 2, 1)), (6, (.invokevirtual 89, 3)), (9, (.iload_n 3, 1)), (10, (.istore 5, 2)), (12, (.iload 5, 2)), (14, (.ifCond .lt 74, 3)), (17, (.iload 5, 2)), (19, (.iload_n 3, 1)), (20, (.if_icmp .lt 8, 3)), (23, (.iload 4, 2)), (25, (.ifCond .ne 17, 3)), (28, (.aload_n 0, 1)), (29, (.getfield 12, 3)), (32, (.aload_n 0, 1)), (33, (.getfield 36, 3)), (36, (.iload 5, 2)), (38, (.iaload, 1)), (39, (.invokevirtual 93, 3)), (42, (.iload 5, 2)), (44, (.iload_n 3, 1)), (45, (.if_icmp .lt 9, 3)), (48, (.iload 4, 2))] = true := by decide +kernel
theorem dX2_fail_0 : decode cX2_fail 0 = .ok (.aload_n 0, 1) := zdcg 0 zdT_dX2_fail_0 rfl
theorem dX2_fail_1 : decode cX2_fail 1 = .ok (.getfield 12, 3) := zdcg 1 zdT_dX2_fail_0 rfl
theorem dX2_fail_4 : decode cX2_fail 4 = .ok (.iload_n 1, 1) := zdcg 2 zdT_dX2_fail_0 rfl
theorem dX2_fail_5 : decode cX2_fail 5 = .ok (.iload_n 2, 1) := zdcg 3 zdT_dX2_fail_0 rfl
theorem dX2_fail_6 : decode cX2_fail 6 = .ok (.invokevirtual 89, 3) := zdcg 4 zdT_dX2_fail_0 rfl
theorem dX2_fail_9 : decode cX2_fail 9 = .ok (.iload_n 3, 1) := zdcg 5 zdT_dX2_fail_0 rfl
theorem dX2_fail_10 : decode cX2_fail 10 = .ok (.istore 5, 2) := zdcg 6 zdT_dX2_fail_0 rfl
theorem dX2_fail_12 : decode cX2_fail 12 = .ok (.iload 5, 2) := zdcg 7 zdT_dX2_fail_0 rfl
theorem dX2_fail_14 : decode cX2_fail 14 = .ok (.ifCond .lt 74, 3) := zdcg 8 zdT_dX2_fail_0 rfl
theorem dX2_fail_17 : decode cX2_fail 17 = .ok (.iload 5, 2) := zdcg 9 zdT_dX2_fail_0 rfl
theorem dX2_fail_19 : decode cX2_fail 19 = .ok (.iload_n 3, 1) := zdcg 10 zdT_dX2_fail_0 rfl
theorem dX2_fail_20 : decode cX2_fail 20 = .ok (.if_icmp .lt 8, 3) := zdcg 11 zdT_dX2_fail_0 rfl
theorem dX2_fail_23 : decode cX2_fail 23 = .ok (.iload 4, 2) := zdcg 12 zdT_dX2_fail_0 rfl
theorem dX2_fail_25 : decode cX2_fail 25 = .ok (.ifCond .ne 17, 3) := zdcg 13 zdT_dX2_fail_0 rfl
theorem dX2_fail_28 : decode cX2_fail 28 = .ok (.aload_n 0, 1) := zdcg 14 zdT_dX2_fail_0 rfl
theorem dX2_fail_29 : decode cX2_fail 29 = .ok (.getfield 12, 3) := zdcg 15 zdT_dX2_fail_0 rfl
theorem dX2_fail_32 : decode cX2_fail 32 = .ok (.aload_n 0, 1) := zdcg 16 zdT_dX2_fail_0 rfl
theorem dX2_fail_33 : decode cX2_fail 33 = .ok (.getfield 36, 3) := zdcg 17 zdT_dX2_fail_0 rfl
theorem dX2_fail_36 : decode cX2_fail 36 = .ok (.iload 5, 2) := zdcg 18 zdT_dX2_fail_0 rfl
theorem dX2_fail_38 : decode cX2_fail 38 = .ok (.iaload, 1) := zdcg 19 zdT_dX2_fail_0 rfl
theorem dX2_fail_39 : decode cX2_fail 39 = .ok (.invokevirtual 93, 3) := zdcg 20 zdT_dX2_fail_0 rfl
theorem dX2_fail_42 : decode cX2_fail 42 = .ok (.iload 5, 2) := zdcg 21 zdT_dX2_fail_0 rfl
theorem dX2_fail_44 : decode cX2_fail 44 = .ok (.iload_n 3, 1) := zdcg 22 zdT_dX2_fail_0 rfl
theorem dX2_fail_45 : decode cX2_fail 45 = .ok (.if_icmp .lt 9, 3) := zdcg 23 zdT_dX2_fail_0 rfl
theorem dX2_fail_48 : decode cX2_fail 48 = .ok (.iload 4, 2) := zdcg 24 zdT_dX2_fail_0 rfl
theorem zdT_dX2_fail_50 : zdch cX2_fail [(50, (.iconst 2, 1)), (51, (.if_icmp .eq 17, 3)), (54, (.aload_n 0, 1)), (55, (.getfield 12, 3)), (58, (.aload_n 0, 1)), (59, (.getfield 33, 3)), (62, (.iload 5, 2)), (64, (.iaload, 1)), (65, (.invokevirtual 93, 3)), (68, (.aload_n 0, 1)), (69, (.getfield 12, 3)), (72, (.aload_n 0, 1)), (73, (.getfield 29, 3)), (76, (.iload 5, 2)), (78, (.iaload, 1)), (79, (.invokevirtual 93, 3)), (82, (.iinc 5 (-1), 3)), (85, (.goto (-73), 3)), (88, (.iconst 0, 1)), (89, (.ireturn, 1))] = true := by decide +kernel
theorem dX2_fail_50 : decode cX2_fail 50 = .ok (.iconst 2, 1) := zdcg 0 zdT_dX2_fail_50 rfl
theorem dX2_fail_51 : decode cX2_fail 51 = .ok (.if_icmp .eq 17, 3) := zdcg 1 zdT_dX2_fail_50 rfl
theorem dX2_fail_54 : decode cX2_fail 54 = .ok (.aload_n 0, 1) := zdcg 2 zdT_dX2_fail_50 rfl
theorem dX2_fail_55 : decode cX2_fail 55 = .ok (.getfield 12, 3) := zdcg 3 zdT_dX2_fail_50 rfl
theorem dX2_fail_58 : decode cX2_fail 58 = .ok (.aload_n 0, 1) := zdcg 4 zdT_dX2_fail_50 rfl
theorem dX2_fail_59 : decode cX2_fail 59 = .ok (.getfield 33, 3) := zdcg 5 zdT_dX2_fail_50 rfl
theorem dX2_fail_62 : decode cX2_fail 62 = .ok (.iload 5, 2) := zdcg 6 zdT_dX2_fail_50 rfl
theorem dX2_fail_64 : decode cX2_fail 64 = .ok (.iaload, 1) := zdcg 7 zdT_dX2_fail_50 rfl
theorem dX2_fail_65 : decode cX2_fail 65 = .ok (.invokevirtual 93, 3) := zdcg 8 zdT_dX2_fail_50 rfl
theorem dX2_fail_68 : decode cX2_fail 68 = .ok (.aload_n 0, 1) := zdcg 9 zdT_dX2_fail_50 rfl
theorem dX2_fail_69 : decode cX2_fail 69 = .ok (.getfield 12, 3) := zdcg 10 zdT_dX2_fail_50 rfl
theorem dX2_fail_72 : decode cX2_fail 72 = .ok (.aload_n 0, 1) := zdcg 11 zdT_dX2_fail_50 rfl
theorem dX2_fail_73 : decode cX2_fail 73 = .ok (.getfield 29, 3) := zdcg 12 zdT_dX2_fail_50 rfl
theorem dX2_fail_76 : decode cX2_fail 76 = .ok (.iload 5, 2) := zdcg 13 zdT_dX2_fail_50 rfl
theorem dX2_fail_78 : decode cX2_fail 78 = .ok (.iaload, 1) := zdcg 14 zdT_dX2_fail_50 rfl
theorem dX2_fail_79 : decode cX2_fail 79 = .ok (.invokevirtual 93, 3) := zdcg 15 zdT_dX2_fail_50 rfl
theorem dX2_fail_82 : decode cX2_fail 82 = .ok (.iinc 5 (-1), 3) := zdcg 16 zdT_dX2_fail_50 rfl
theorem dX2_fail_85 : decode cX2_fail 85 = .ok (.goto (-73), 3) := zdcg 17 zdT_dX2_fail_50 rfl
theorem dX2_fail_88 : decode cX2_fail 88 = .ok (.iconst 0, 1) := zdcg 18 zdT_dX2_fail_50 rfl
theorem dX2_fail_89 : decode cX2_fail 89 = .ok (.ireturn, 1) := zdcg 19 zdT_dX2_fail_50 rfl
theorem zdT_dX2_readSum_0 : zdch cX2_readSum [(0, (.aload_n 0, 1)), (1, (.invokevirtual 74, 3)), (4, (.pop, 1)), (5, (.aload_n 0, 1)), (6, (.getfield 29, 3)), (9, (.iload_n 1, 1)), (10, (.aload_n 0, 1)), (11, (.getfield 60, 3)), (14, (.iastore, 1)), (15, (.aload_n 0, 1)), (16, (.iload_n 1, 1)), (17, (.invokevirtual 97, 3)), (20, (.ifCond .ne 5, 3)), (23, (.iconst 0, 1)), (24, (.ireturn, 1)), (25, (.aload_n 0, 1)), (26, (.getfield 23, 3)), (29, (.iload_n 1, 1)), (30, (.aaload, 1)), (31, (.iconst 0, 1)), (32, (.aload_n 0, 1)), (33, (.getfield 20, 3)), (36, (.iload_n 1, 1)), (37, (.aaload, 1)), (38, (.iconst 0, 1))] = true := by decide +kernel
theorem dX2_readSum_0 : decode cX2_readSum 0 = .ok (.aload_n 0, 1) := zdcg 0 zdT_dX2_readSum_0 rfl
theorem dX2_readSum_1 : decode cX2_readSum 1 = .ok (.invokevirtual 74, 3) := zdcg 1 zdT_dX2_readSum_0 rfl
theorem dX2_readSum_4 : decode cX2_readSum 4 = .ok (.pop, 1) := zdcg 2 zdT_dX2_readSum_0 rfl
theorem dX2_readSum_5 : decode cX2_readSum 5 = .ok (.aload_n 0, 1) := zdcg 3 zdT_dX2_readSum_0 rfl
theorem dX2_readSum_6 : decode cX2_readSum 6 = .ok (.getfield 29, 3) := zdcg 4 zdT_dX2_readSum_0 rfl
theorem dX2_readSum_9 : decode cX2_readSum 9 = .ok (.iload_n 1, 1) := zdcg 5 zdT_dX2_readSum_0 rfl
theorem dX2_readSum_10 : decode cX2_readSum 10 = .ok (.aload_n 0, 1) := zdcg 6 zdT_dX2_readSum_0 rfl
theorem dX2_readSum_11 : decode cX2_readSum 11 = .ok (.getfield 60, 3) := zdcg 7 zdT_dX2_readSum_0 rfl
theorem dX2_readSum_14 : decode cX2_readSum 14 = .ok (.iastore, 1) := zdcg 8 zdT_dX2_readSum_0 rfl
theorem dX2_readSum_15 : decode cX2_readSum 15 = .ok (.aload_n 0, 1) := zdcg 9 zdT_dX2_readSum_0 rfl
theorem dX2_readSum_16 : decode cX2_readSum 16 = .ok (.iload_n 1, 1) := zdcg 10 zdT_dX2_readSum_0 rfl
theorem dX2_readSum_17 : decode cX2_readSum 17 = .ok (.invokevirtual 97, 3) := zdcg 11 zdT_dX2_readSum_0 rfl
theorem dX2_readSum_20 : decode cX2_readSum 20 = .ok (.ifCond .ne 5, 3) := zdcg 12 zdT_dX2_readSum_0 rfl
theorem dX2_readSum_23 : decode cX2_readSum 23 = .ok (.iconst 0, 1) := zdcg 13 zdT_dX2_readSum_0 rfl
theorem dX2_readSum_24 : decode cX2_readSum 24 = .ok (.ireturn, 1) := zdcg 14 zdT_dX2_readSum_0 rfl
theorem dX2_readSum_25 : decode cX2_readSum 25 = .ok (.aload_n 0, 1) := zdcg 15 zdT_dX2_readSum_0 rfl
theorem dX2_readSum_26 : decode cX2_readSum 26 = .ok (.getfield 23, 3) := zdcg 16 zdT_dX2_readSum_0 rfl
theorem dX2_readSum_29 : decode cX2_readSum 29 = .ok (.iload_n 1, 1) := zdcg 17 zdT_dX2_readSum_0 rfl
theorem dX2_readSum_30 : decode cX2_readSum 30 = .ok (.aaload, 1) := zdcg 18 zdT_dX2_readSum_0 rfl
theorem dX2_readSum_31 : decode cX2_readSum 31 = .ok (.iconst 0, 1) := zdcg 19 zdT_dX2_readSum_0 rfl
theorem dX2_readSum_32 : decode cX2_readSum 32 = .ok (.aload_n 0, 1) := zdcg 20 zdT_dX2_readSum_0 rfl
theorem dX2_readSum_33 : decode cX2_readSum 33 = .ok (.getfield 20, 3) := zdcg 21 zdT_dX2_readSum_0 rfl
theorem dX2_readSum_36 : decode cX2_readSum 36 = .ok (.iload_n 1, 1) := zdcg 22 zdT_dX2_readSum_0 rfl
theorem dX2_readSum_37 : decode cX2_readSum 37 = .ok (.aaload, 1) := zdcg 23 zdT_dX2_readSum_0 rfl
theorem dX2_readSum_38 : decode cX2_readSum 38 = .ok (.iconst 0, 1) := zdcg 24 zdT_dX2_readSum_0 rfl
theorem zdT_dX2_readSum_39 : zdch cX2_readSum [(39, (.aload_n 0, 1)), (40, (.getfield 49, 3)), (43, (.getfield 100, 3)), (46, (.invokestatic 105, 3)), (49, (.iconst 0, 1)), (50, (.istore_n 2, 1)), (51, (.iload_n 2, 1)), (52, (.sipush 200, 3)), (55, (.if_icmp .ge 95, 3)), (58, (.aload_n 0, 1)), (59, (.invokevirtual 74, 3)), (62, (.istore_n 3, 1)), (63, (.iload_n 3, 1)), (64, (.bipush 43, 2)), (66, (.if_icmp .eq 11, 3)), (69, (.iload_n 3, 1)), (70, (.bipush 45, 2)), (72, (.if_icmp .eq 5, 3)), (75, (.iconst 1, 1)), (76, (.ireturn, 1)), (77, (.aload_n 0, 1)), (78, (.getfield 60, 3)), (81, (.istore 4, 2)), (83, (.aload_n 0, 1)), (84, (.dup, 1))] = true := by decide +kernel
theorem dX2_readSum_39 : decode cX2_readSum 39 = .ok (.aload_n 0, 1) := zdcg 0 zdT_dX2_readSum_39 rfl
theorem dX2_readSum_40 : decode cX2_readSum 40 = .ok (.getfield 49, 3) := zdcg 1 zdT_dX2_readSum_39 rfl
theorem dX2_readSum_43 : decode cX2_readSum 43 = .ok (.getfield 100, 3) := zdcg 2 zdT_dX2_readSum_39 rfl
theorem dX2_readSum_46 : decode cX2_readSum 46 = .ok (.invokestatic 105, 3) := zdcg 3 zdT_dX2_readSum_39 rfl
theorem dX2_readSum_49 : decode cX2_readSum 49 = .ok (.iconst 0, 1) := zdcg 4 zdT_dX2_readSum_39 rfl
theorem dX2_readSum_50 : decode cX2_readSum 50 = .ok (.istore_n 2, 1) := zdcg 5 zdT_dX2_readSum_39 rfl
theorem dX2_readSum_51 : decode cX2_readSum 51 = .ok (.iload_n 2, 1) := zdcg 6 zdT_dX2_readSum_39 rfl
theorem dX2_readSum_52 : decode cX2_readSum 52 = .ok (.sipush 200, 3) := zdcg 7 zdT_dX2_readSum_39 rfl
theorem dX2_readSum_55 : decode cX2_readSum 55 = .ok (.if_icmp .ge 95, 3) := zdcg 8 zdT_dX2_readSum_39 rfl
theorem dX2_readSum_58 : decode cX2_readSum 58 = .ok (.aload_n 0, 1) := zdcg 9 zdT_dX2_readSum_39 rfl
theorem dX2_readSum_59 : decode cX2_readSum 59 = .ok (.invokevirtual 74, 3) := zdcg 10 zdT_dX2_readSum_39 rfl
theorem dX2_readSum_62 : decode cX2_readSum 62 = .ok (.istore_n 3, 1) := zdcg 11 zdT_dX2_readSum_39 rfl
theorem dX2_readSum_63 : decode cX2_readSum 63 = .ok (.iload_n 3, 1) := zdcg 12 zdT_dX2_readSum_39 rfl
theorem dX2_readSum_64 : decode cX2_readSum 64 = .ok (.bipush 43, 2) := zdcg 13 zdT_dX2_readSum_39 rfl
theorem dX2_readSum_66 : decode cX2_readSum 66 = .ok (.if_icmp .eq 11, 3) := zdcg 14 zdT_dX2_readSum_39 rfl
theorem dX2_readSum_69 : decode cX2_readSum 69 = .ok (.iload_n 3, 1) := zdcg 15 zdT_dX2_readSum_39 rfl
theorem dX2_readSum_70 : decode cX2_readSum 70 = .ok (.bipush 45, 2) := zdcg 16 zdT_dX2_readSum_39 rfl
theorem dX2_readSum_72 : decode cX2_readSum 72 = .ok (.if_icmp .eq 5, 3) := zdcg 17 zdT_dX2_readSum_39 rfl
theorem dX2_readSum_75 : decode cX2_readSum 75 = .ok (.iconst 1, 1) := zdcg 18 zdT_dX2_readSum_39 rfl
theorem dX2_readSum_76 : decode cX2_readSum 76 = .ok (.ireturn, 1) := zdcg 19 zdT_dX2_readSum_39 rfl
theorem dX2_readSum_77 : decode cX2_readSum 77 = .ok (.aload_n 0, 1) := zdcg 20 zdT_dX2_readSum_39 rfl
theorem dX2_readSum_78 : decode cX2_readSum 78 = .ok (.getfield 60, 3) := zdcg 21 zdT_dX2_readSum_39 rfl
theorem dX2_readSum_81 : decode cX2_readSum 81 = .ok (.istore 4, 2) := zdcg 22 zdT_dX2_readSum_39 rfl
theorem dX2_readSum_83 : decode cX2_readSum 83 = .ok (.aload_n 0, 1) := zdcg 23 zdT_dX2_readSum_39 rfl
theorem dX2_readSum_84 : decode cX2_readSum 84 = .ok (.dup, 1) := zdcg 24 zdT_dX2_readSum_39 rfl
theorem zdT_dX2_readSum_85 : zdch cX2_readSum [(85, (.getfield 60, 3)), (88, (.iconst 1, 1)), (89, (.iadd, 1)), (90, (.putfield 60, 3)), (93, (.aload_n 0, 1)), (94, (.iload_n 1, 1)), (95, (.invokevirtual 97, 3)), (98, (.ifCond .ne 5, 3)), (101, (.iconst 0, 1)), (102, (.ireturn, 1)), (103, (.aload_n 0, 1)), (104, (.aload_n 0, 1)), (105, (.getfield 23, 3)), (108, (.iload_n 1, 1)), (109, (.aaload, 1)), (110, (.iload_n 3, 1)), (111, (.bipush 45, 2)), (113, (.if_icmp .ne 7, 3)), (116, (.iconst 1, 1)), (117, (.goto 4, 3)), (120, (.iconst 0, 1)), (121, (.aload_n 0, 1)), (122, (.getfield 20, 3)), (125, (.iload_n 1, 1)), (126, (.aaload, 1))] = true := by decide +kernel
theorem dX2_readSum_85 : decode cX2_readSum 85 = .ok (.getfield 60, 3) := zdcg 0 zdT_dX2_readSum_85 rfl
theorem dX2_readSum_88 : decode cX2_readSum 88 = .ok (.iconst 1, 1) := zdcg 1 zdT_dX2_readSum_85 rfl
theorem dX2_readSum_89 : decode cX2_readSum 89 = .ok (.iadd, 1) := zdcg 2 zdT_dX2_readSum_85 rfl
theorem dX2_readSum_90 : decode cX2_readSum 90 = .ok (.putfield 60, 3) := zdcg 3 zdT_dX2_readSum_85 rfl
theorem dX2_readSum_93 : decode cX2_readSum 93 = .ok (.aload_n 0, 1) := zdcg 4 zdT_dX2_readSum_85 rfl
theorem dX2_readSum_94 : decode cX2_readSum 94 = .ok (.iload_n 1, 1) := zdcg 5 zdT_dX2_readSum_85 rfl
theorem dX2_readSum_95 : decode cX2_readSum 95 = .ok (.invokevirtual 97, 3) := zdcg 6 zdT_dX2_readSum_85 rfl
theorem dX2_readSum_98 : decode cX2_readSum 98 = .ok (.ifCond .ne 5, 3) := zdcg 7 zdT_dX2_readSum_85 rfl
theorem dX2_readSum_101 : decode cX2_readSum 101 = .ok (.iconst 0, 1) := zdcg 8 zdT_dX2_readSum_85 rfl
theorem dX2_readSum_102 : decode cX2_readSum 102 = .ok (.ireturn, 1) := zdcg 9 zdT_dX2_readSum_85 rfl
theorem dX2_readSum_103 : decode cX2_readSum 103 = .ok (.aload_n 0, 1) := zdcg 10 zdT_dX2_readSum_85 rfl
theorem dX2_readSum_104 : decode cX2_readSum 104 = .ok (.aload_n 0, 1) := zdcg 11 zdT_dX2_readSum_85 rfl
theorem dX2_readSum_105 : decode cX2_readSum 105 = .ok (.getfield 23, 3) := zdcg 12 zdT_dX2_readSum_85 rfl
theorem dX2_readSum_108 : decode cX2_readSum 108 = .ok (.iload_n 1, 1) := zdcg 13 zdT_dX2_readSum_85 rfl
theorem dX2_readSum_109 : decode cX2_readSum 109 = .ok (.aaload, 1) := zdcg 14 zdT_dX2_readSum_85 rfl
theorem dX2_readSum_110 : decode cX2_readSum 110 = .ok (.iload_n 3, 1) := zdcg 15 zdT_dX2_readSum_85 rfl
theorem dX2_readSum_111 : decode cX2_readSum 111 = .ok (.bipush 45, 2) := zdcg 16 zdT_dX2_readSum_85 rfl
theorem dX2_readSum_113 : decode cX2_readSum 113 = .ok (.if_icmp .ne 7, 3) := zdcg 17 zdT_dX2_readSum_85 rfl
theorem dX2_readSum_116 : decode cX2_readSum 116 = .ok (.iconst 1, 1) := zdcg 18 zdT_dX2_readSum_85 rfl
theorem dX2_readSum_117 : decode cX2_readSum 117 = .ok (.goto 4, 3) := zdcg 19 zdT_dX2_readSum_85 rfl
theorem dX2_readSum_120 : decode cX2_readSum 120 = .ok (.iconst 0, 1) := zdcg 20 zdT_dX2_readSum_85 rfl
theorem dX2_readSum_121 : decode cX2_readSum 121 = .ok (.aload_n 0, 1) := zdcg 21 zdT_dX2_readSum_85 rfl
theorem dX2_readSum_122 : decode cX2_readSum 122 = .ok (.getfield 20, 3) := zdcg 22 zdT_dX2_readSum_85 rfl
theorem dX2_readSum_125 : decode cX2_readSum 125 = .ok (.iload_n 1, 1) := zdcg 23 zdT_dX2_readSum_85 rfl
theorem dX2_readSum_126 : decode cX2_readSum 126 = .ok (.aaload, 1) := zdcg 24 zdT_dX2_readSum_85 rfl
theorem zdT_dX2_readSum_127 : zdch cX2_readSum [(127, (.invokevirtual 111, 3)), (130, (.ifCond .ne 14, 3)), (133, (.aload_n 0, 1)), (134, (.bipush 6, 2)), (136, (.iload 4, 2)), (138, (.iload_n 1, 1)), (139, (.iconst 2, 1)), (140, (.invokevirtual 115, 3)), (143, (.ireturn, 1)), (144, (.iinc 2 1, 3)), (147, (.goto (-96), 3)), (150, (.iconst 1, 1)), (151, (.ireturn, 1))] = true := by decide +kernel
theorem dX2_readSum_127 : decode cX2_readSum 127 = .ok (.invokevirtual 111, 3) := zdcg 0 zdT_dX2_readSum_127 rfl
theorem dX2_readSum_130 : decode cX2_readSum 130 = .ok (.ifCond .ne 14, 3) := zdcg 1 zdT_dX2_readSum_127 rfl
theorem dX2_readSum_133 : decode cX2_readSum 133 = .ok (.aload_n 0, 1) := zdcg 2 zdT_dX2_readSum_127 rfl
theorem dX2_readSum_134 : decode cX2_readSum 134 = .ok (.bipush 6, 2) := zdcg 3 zdT_dX2_readSum_127 rfl
theorem dX2_readSum_136 : decode cX2_readSum 136 = .ok (.iload 4, 2) := zdcg 4 zdT_dX2_readSum_127 rfl
theorem dX2_readSum_138 : decode cX2_readSum 138 = .ok (.iload_n 1, 1) := zdcg 5 zdT_dX2_readSum_127 rfl
theorem dX2_readSum_139 : decode cX2_readSum 139 = .ok (.iconst 2, 1) := zdcg 6 zdT_dX2_readSum_127 rfl
theorem dX2_readSum_140 : decode cX2_readSum 140 = .ok (.invokevirtual 115, 3) := zdcg 7 zdT_dX2_readSum_127 rfl
theorem dX2_readSum_143 : decode cX2_readSum 143 = .ok (.ireturn, 1) := zdcg 8 zdT_dX2_readSum_127 rfl
theorem dX2_readSum_144 : decode cX2_readSum 144 = .ok (.iinc 2 1, 3) := zdcg 9 zdT_dX2_readSum_127 rfl
theorem dX2_readSum_147 : decode cX2_readSum 147 = .ok (.goto (-96), 3) := zdcg 10 zdT_dX2_readSum_127 rfl
theorem dX2_readSum_150 : decode cX2_readSum 150 = .ok (.iconst 1, 1) := zdcg 11 zdT_dX2_readSum_127 rfl
theorem dX2_readSum_151 : decode cX2_readSum 151 = .ok (.ireturn, 1) := zdcg 12 zdT_dX2_readSum_127 rfl
theorem zdT_dX2_readTerm_0 : zdch cX2_readTerm [(0, (.aload_n 0, 1)), (1, (.invokevirtual 74, 3)), (4, (.pop, 1)), (5, (.aload_n 0, 1)), (6, (.getfield 33, 3)), (9, (.iload_n 1, 1)), (10, (.aload_n 0, 1)), (11, (.getfield 60, 3)), (14, (.iastore, 1)), (15, (.aload_n 0, 1)), (16, (.iload_n 1, 1)), (17, (.invokevirtual 119, 3)), (20, (.ifCond .ne 5, 3)), (23, (.iconst 0, 1)), (24, (.ireturn, 1)), (25, (.aload_n 0, 1)), (26, (.getfield 26, 3)), (29, (.iload_n 1, 1)), (30, (.aaload, 1)), (31, (.iconst 0, 1)), (32, (.aload_n 0, 1)), (33, (.getfield 23, 3)), (36, (.iload_n 1, 1)), (37, (.aaload, 1)), (38, (.iconst 0, 1))] = true := by decide +kernel
theorem dX2_readTerm_0 : decode cX2_readTerm 0 = .ok (.aload_n 0, 1) := zdcg 0 zdT_dX2_readTerm_0 rfl
theorem dX2_readTerm_1 : decode cX2_readTerm 1 = .ok (.invokevirtual 74, 3) := zdcg 1 zdT_dX2_readTerm_0 rfl
theorem dX2_readTerm_4 : decode cX2_readTerm 4 = .ok (.pop, 1) := zdcg 2 zdT_dX2_readTerm_0 rfl
theorem dX2_readTerm_5 : decode cX2_readTerm 5 = .ok (.aload_n 0, 1) := zdcg 3 zdT_dX2_readTerm_0 rfl
theorem dX2_readTerm_6 : decode cX2_readTerm 6 = .ok (.getfield 33, 3) := zdcg 4 zdT_dX2_readTerm_0 rfl
theorem dX2_readTerm_9 : decode cX2_readTerm 9 = .ok (.iload_n 1, 1) := zdcg 5 zdT_dX2_readTerm_0 rfl
theorem dX2_readTerm_10 : decode cX2_readTerm 10 = .ok (.aload_n 0, 1) := zdcg 6 zdT_dX2_readTerm_0 rfl
theorem dX2_readTerm_11 : decode cX2_readTerm 11 = .ok (.getfield 60, 3) := zdcg 7 zdT_dX2_readTerm_0 rfl
theorem dX2_readTerm_14 : decode cX2_readTerm 14 = .ok (.iastore, 1) := zdcg 8 zdT_dX2_readTerm_0 rfl
theorem dX2_readTerm_15 : decode cX2_readTerm 15 = .ok (.aload_n 0, 1) := zdcg 9 zdT_dX2_readTerm_0 rfl
theorem dX2_readTerm_16 : decode cX2_readTerm 16 = .ok (.iload_n 1, 1) := zdcg 10 zdT_dX2_readTerm_0 rfl
theorem dX2_readTerm_17 : decode cX2_readTerm 17 = .ok (.invokevirtual 119, 3) := zdcg 11 zdT_dX2_readTerm_0 rfl
theorem dX2_readTerm_20 : decode cX2_readTerm 20 = .ok (.ifCond .ne 5, 3) := zdcg 12 zdT_dX2_readTerm_0 rfl
theorem dX2_readTerm_23 : decode cX2_readTerm 23 = .ok (.iconst 0, 1) := zdcg 13 zdT_dX2_readTerm_0 rfl
theorem dX2_readTerm_24 : decode cX2_readTerm 24 = .ok (.ireturn, 1) := zdcg 14 zdT_dX2_readTerm_0 rfl
theorem dX2_readTerm_25 : decode cX2_readTerm 25 = .ok (.aload_n 0, 1) := zdcg 15 zdT_dX2_readTerm_0 rfl
theorem dX2_readTerm_26 : decode cX2_readTerm 26 = .ok (.getfield 26, 3) := zdcg 16 zdT_dX2_readTerm_0 rfl
theorem dX2_readTerm_29 : decode cX2_readTerm 29 = .ok (.iload_n 1, 1) := zdcg 17 zdT_dX2_readTerm_0 rfl
theorem dX2_readTerm_30 : decode cX2_readTerm 30 = .ok (.aaload, 1) := zdcg 18 zdT_dX2_readTerm_0 rfl
theorem dX2_readTerm_31 : decode cX2_readTerm 31 = .ok (.iconst 0, 1) := zdcg 19 zdT_dX2_readTerm_0 rfl
theorem dX2_readTerm_32 : decode cX2_readTerm 32 = .ok (.aload_n 0, 1) := zdcg 20 zdT_dX2_readTerm_0 rfl
theorem dX2_readTerm_33 : decode cX2_readTerm 33 = .ok (.getfield 23, 3) := zdcg 21 zdT_dX2_readTerm_0 rfl
theorem dX2_readTerm_36 : decode cX2_readTerm 36 = .ok (.iload_n 1, 1) := zdcg 22 zdT_dX2_readTerm_0 rfl
theorem dX2_readTerm_37 : decode cX2_readTerm 37 = .ok (.aaload, 1) := zdcg 23 zdT_dX2_readTerm_0 rfl
theorem dX2_readTerm_38 : decode cX2_readTerm 38 = .ok (.iconst 0, 1) := zdcg 24 zdT_dX2_readTerm_0 rfl
theorem zdT_dX2_readTerm_39 : zdch cX2_readTerm [(39, (.aload_n 0, 1)), (40, (.getfield 49, 3)), (43, (.getfield 100, 3)), (46, (.invokestatic 105, 3)), (49, (.iconst 0, 1)), (50, (.istore_n 2, 1)), (51, (.iload_n 2, 1)), (52, (.sipush 200, 3)), (55, (.if_icmp .ge 74, 3)), (58, (.aload_n 0, 1)), (59, (.invokevirtual 74, 3)), (62, (.bipush 42, 2)), (64, (.if_icmp .eq 5, 3)), (67, (.iconst 1, 1)), (68, (.ireturn, 1)), (69, (.aload_n 0, 1)), (70, (.getfield 60, 3)), (73, (.istore_n 3, 1)), (74, (.aload_n 0, 1)), (75, (.dup, 1)), (76, (.getfield 60, 3)), (79, (.iconst 1, 1)), (80, (.iadd, 1)), (81, (.putfield 60, 3)), (84, (.aload_n 0, 1))] = true := by decide +kernel
theorem dX2_readTerm_39 : decode cX2_readTerm 39 = .ok (.aload_n 0, 1) := zdcg 0 zdT_dX2_readTerm_39 rfl
theorem dX2_readTerm_40 : decode cX2_readTerm 40 = .ok (.getfield 49, 3) := zdcg 1 zdT_dX2_readTerm_39 rfl
theorem dX2_readTerm_43 : decode cX2_readTerm 43 = .ok (.getfield 100, 3) := zdcg 2 zdT_dX2_readTerm_39 rfl
theorem dX2_readTerm_46 : decode cX2_readTerm 46 = .ok (.invokestatic 105, 3) := zdcg 3 zdT_dX2_readTerm_39 rfl
theorem dX2_readTerm_49 : decode cX2_readTerm 49 = .ok (.iconst 0, 1) := zdcg 4 zdT_dX2_readTerm_39 rfl
theorem dX2_readTerm_50 : decode cX2_readTerm 50 = .ok (.istore_n 2, 1) := zdcg 5 zdT_dX2_readTerm_39 rfl
theorem dX2_readTerm_51 : decode cX2_readTerm 51 = .ok (.iload_n 2, 1) := zdcg 6 zdT_dX2_readTerm_39 rfl
theorem dX2_readTerm_52 : decode cX2_readTerm 52 = .ok (.sipush 200, 3) := zdcg 7 zdT_dX2_readTerm_39 rfl
theorem dX2_readTerm_55 : decode cX2_readTerm 55 = .ok (.if_icmp .ge 74, 3) := zdcg 8 zdT_dX2_readTerm_39 rfl
theorem dX2_readTerm_58 : decode cX2_readTerm 58 = .ok (.aload_n 0, 1) := zdcg 9 zdT_dX2_readTerm_39 rfl
theorem dX2_readTerm_59 : decode cX2_readTerm 59 = .ok (.invokevirtual 74, 3) := zdcg 10 zdT_dX2_readTerm_39 rfl
theorem dX2_readTerm_62 : decode cX2_readTerm 62 = .ok (.bipush 42, 2) := zdcg 11 zdT_dX2_readTerm_39 rfl
theorem dX2_readTerm_64 : decode cX2_readTerm 64 = .ok (.if_icmp .eq 5, 3) := zdcg 12 zdT_dX2_readTerm_39 rfl
theorem dX2_readTerm_67 : decode cX2_readTerm 67 = .ok (.iconst 1, 1) := zdcg 13 zdT_dX2_readTerm_39 rfl
theorem dX2_readTerm_68 : decode cX2_readTerm 68 = .ok (.ireturn, 1) := zdcg 14 zdT_dX2_readTerm_39 rfl
theorem dX2_readTerm_69 : decode cX2_readTerm 69 = .ok (.aload_n 0, 1) := zdcg 15 zdT_dX2_readTerm_39 rfl
theorem dX2_readTerm_70 : decode cX2_readTerm 70 = .ok (.getfield 60, 3) := zdcg 16 zdT_dX2_readTerm_39 rfl
theorem dX2_readTerm_73 : decode cX2_readTerm 73 = .ok (.istore_n 3, 1) := zdcg 17 zdT_dX2_readTerm_39 rfl
theorem dX2_readTerm_74 : decode cX2_readTerm 74 = .ok (.aload_n 0, 1) := zdcg 18 zdT_dX2_readTerm_39 rfl
theorem dX2_readTerm_75 : decode cX2_readTerm 75 = .ok (.dup, 1) := zdcg 19 zdT_dX2_readTerm_39 rfl
theorem dX2_readTerm_76 : decode cX2_readTerm 76 = .ok (.getfield 60, 3) := zdcg 20 zdT_dX2_readTerm_39 rfl
theorem dX2_readTerm_79 : decode cX2_readTerm 79 = .ok (.iconst 1, 1) := zdcg 21 zdT_dX2_readTerm_39 rfl
theorem dX2_readTerm_80 : decode cX2_readTerm 80 = .ok (.iadd, 1) := zdcg 22 zdT_dX2_readTerm_39 rfl
theorem dX2_readTerm_81 : decode cX2_readTerm 81 = .ok (.putfield 60, 3) := zdcg 23 zdT_dX2_readTerm_39 rfl
theorem dX2_readTerm_84 : decode cX2_readTerm 84 = .ok (.aload_n 0, 1) := zdcg 24 zdT_dX2_readTerm_39 rfl
theorem zdT_dX2_readTerm_85 : zdch cX2_readTerm [(85, (.iload_n 1, 1)), (86, (.invokevirtual 119, 3)), (89, (.ifCond .ne 5, 3)), (92, (.iconst 0, 1)), (93, (.ireturn, 1)), (94, (.aload_n 0, 1)), (95, (.aload_n 0, 1)), (96, (.getfield 26, 3)), (99, (.iload_n 1, 1)), (100, (.aaload, 1)), (101, (.aload_n 0, 1)), (102, (.getfield 23, 3)), (105, (.iload_n 1, 1)), (106, (.aaload, 1)), (107, (.invokevirtual 122, 3)), (110, (.ifCond .ne 13, 3)), (113, (.aload_n 0, 1)), (114, (.bipush 6, 2)), (116, (.iload_n 3, 1)), (117, (.iload_n 1, 1)), (118, (.iconst 1, 1)), (119, (.invokevirtual 115, 3)), (122, (.ireturn, 1)), (123, (.iinc 2 1, 3)), (126, (.goto (-75), 3))] = true := by decide +kernel
theorem dX2_readTerm_85 : decode cX2_readTerm 85 = .ok (.iload_n 1, 1) := zdcg 0 zdT_dX2_readTerm_85 rfl
theorem dX2_readTerm_86 : decode cX2_readTerm 86 = .ok (.invokevirtual 119, 3) := zdcg 1 zdT_dX2_readTerm_85 rfl
theorem dX2_readTerm_89 : decode cX2_readTerm 89 = .ok (.ifCond .ne 5, 3) := zdcg 2 zdT_dX2_readTerm_85 rfl
theorem dX2_readTerm_92 : decode cX2_readTerm 92 = .ok (.iconst 0, 1) := zdcg 3 zdT_dX2_readTerm_85 rfl
theorem dX2_readTerm_93 : decode cX2_readTerm 93 = .ok (.ireturn, 1) := zdcg 4 zdT_dX2_readTerm_85 rfl
theorem dX2_readTerm_94 : decode cX2_readTerm 94 = .ok (.aload_n 0, 1) := zdcg 5 zdT_dX2_readTerm_85 rfl
theorem dX2_readTerm_95 : decode cX2_readTerm 95 = .ok (.aload_n 0, 1) := zdcg 6 zdT_dX2_readTerm_85 rfl
theorem dX2_readTerm_96 : decode cX2_readTerm 96 = .ok (.getfield 26, 3) := zdcg 7 zdT_dX2_readTerm_85 rfl
theorem dX2_readTerm_99 : decode cX2_readTerm 99 = .ok (.iload_n 1, 1) := zdcg 8 zdT_dX2_readTerm_85 rfl
theorem dX2_readTerm_100 : decode cX2_readTerm 100 = .ok (.aaload, 1) := zdcg 9 zdT_dX2_readTerm_85 rfl
theorem dX2_readTerm_101 : decode cX2_readTerm 101 = .ok (.aload_n 0, 1) := zdcg 10 zdT_dX2_readTerm_85 rfl
theorem dX2_readTerm_102 : decode cX2_readTerm 102 = .ok (.getfield 23, 3) := zdcg 11 zdT_dX2_readTerm_85 rfl
theorem dX2_readTerm_105 : decode cX2_readTerm 105 = .ok (.iload_n 1, 1) := zdcg 12 zdT_dX2_readTerm_85 rfl
theorem dX2_readTerm_106 : decode cX2_readTerm 106 = .ok (.aaload, 1) := zdcg 13 zdT_dX2_readTerm_85 rfl
theorem dX2_readTerm_107 : decode cX2_readTerm 107 = .ok (.invokevirtual 122, 3) := zdcg 14 zdT_dX2_readTerm_85 rfl
theorem dX2_readTerm_110 : decode cX2_readTerm 110 = .ok (.ifCond .ne 13, 3) := zdcg 15 zdT_dX2_readTerm_85 rfl
theorem dX2_readTerm_113 : decode cX2_readTerm 113 = .ok (.aload_n 0, 1) := zdcg 16 zdT_dX2_readTerm_85 rfl
theorem dX2_readTerm_114 : decode cX2_readTerm 114 = .ok (.bipush 6, 2) := zdcg 17 zdT_dX2_readTerm_85 rfl
theorem dX2_readTerm_116 : decode cX2_readTerm 116 = .ok (.iload_n 3, 1) := zdcg 18 zdT_dX2_readTerm_85 rfl
theorem dX2_readTerm_117 : decode cX2_readTerm 117 = .ok (.iload_n 1, 1) := zdcg 19 zdT_dX2_readTerm_85 rfl
theorem dX2_readTerm_118 : decode cX2_readTerm 118 = .ok (.iconst 1, 1) := zdcg 20 zdT_dX2_readTerm_85 rfl
theorem dX2_readTerm_119 : decode cX2_readTerm 119 = .ok (.invokevirtual 115, 3) := zdcg 21 zdT_dX2_readTerm_85 rfl
theorem dX2_readTerm_122 : decode cX2_readTerm 122 = .ok (.ireturn, 1) := zdcg 22 zdT_dX2_readTerm_85 rfl
theorem dX2_readTerm_123 : decode cX2_readTerm 123 = .ok (.iinc 2 1, 3) := zdcg 23 zdT_dX2_readTerm_85 rfl
theorem dX2_readTerm_126 : decode cX2_readTerm 126 = .ok (.goto (-75), 3) := zdcg 24 zdT_dX2_readTerm_85 rfl
theorem zdT_dX2_readTerm_129 : zdch cX2_readTerm [(129, (.iconst 1, 1)), (130, (.ireturn, 1))] = true := by decide +kernel
theorem dX2_readTerm_129 : decode cX2_readTerm 129 = .ok (.iconst 1, 1) := zdcg 0 zdT_dX2_readTerm_129 rfl
theorem dX2_readTerm_130 : decode cX2_readTerm 130 = .ok (.ireturn, 1) := zdcg 1 zdT_dX2_readTerm_129 rfl
theorem zdT_dX2_readFactor_0 : zdch cX2_readFactor [(0, (.aload_n 0, 1)), (1, (.invokevirtual 74, 3)), (4, (.istore_n 2, 1)), (5, (.aload_n 0, 1)), (6, (.getfield 36, 3)), (9, (.iload_n 1, 1)), (10, (.aload_n 0, 1)), (11, (.getfield 60, 3)), (14, (.iastore, 1)), (15, (.iload_n 2, 1)), (16, (.invokestatic 126, 3)), (19, (.ifCond .eq 9, 3)), (22, (.aload_n 0, 1)), (23, (.iload_n 1, 1)), (24, (.invokevirtual 129, 3)), (27, (.ireturn, 1)), (28, (.iload_n 2, 1)), (29, (.lookupswitch 172 #[(40, 166), (68, 89), (77, 89), (80, 89), (83, 121), (88, 150), (91, 67)], 67)), (96, (.aload_n 0, 1)), (97, (.invokevirtual 132, 3)), (100, (.ifCond .eq 16, 3)), (103, (.aload_n 0, 1)), (104, (.iload_n 1, 1)), (105, (.iload_n 2, 1)), (106, (.invokevirtual 136, 3))] = true := by decide +kernel
theorem dX2_readFactor_0 : decode cX2_readFactor 0 = .ok (.aload_n 0, 1) := zdcg 0 zdT_dX2_readFactor_0 rfl
theorem dX2_readFactor_1 : decode cX2_readFactor 1 = .ok (.invokevirtual 74, 3) := zdcg 1 zdT_dX2_readFactor_0 rfl
theorem dX2_readFactor_4 : decode cX2_readFactor 4 = .ok (.istore_n 2, 1) := zdcg 2 zdT_dX2_readFactor_0 rfl
theorem dX2_readFactor_5 : decode cX2_readFactor 5 = .ok (.aload_n 0, 1) := zdcg 3 zdT_dX2_readFactor_0 rfl
theorem dX2_readFactor_6 : decode cX2_readFactor 6 = .ok (.getfield 36, 3) := zdcg 4 zdT_dX2_readFactor_0 rfl
theorem dX2_readFactor_9 : decode cX2_readFactor 9 = .ok (.iload_n 1, 1) := zdcg 5 zdT_dX2_readFactor_0 rfl
theorem dX2_readFactor_10 : decode cX2_readFactor 10 = .ok (.aload_n 0, 1) := zdcg 6 zdT_dX2_readFactor_0 rfl
theorem dX2_readFactor_11 : decode cX2_readFactor 11 = .ok (.getfield 60, 3) := zdcg 7 zdT_dX2_readFactor_0 rfl
theorem dX2_readFactor_14 : decode cX2_readFactor 14 = .ok (.iastore, 1) := zdcg 8 zdT_dX2_readFactor_0 rfl
theorem dX2_readFactor_15 : decode cX2_readFactor 15 = .ok (.iload_n 2, 1) := zdcg 9 zdT_dX2_readFactor_0 rfl
theorem dX2_readFactor_16 : decode cX2_readFactor 16 = .ok (.invokestatic 126, 3) := zdcg 10 zdT_dX2_readFactor_0 rfl
theorem dX2_readFactor_19 : decode cX2_readFactor 19 = .ok (.ifCond .eq 9, 3) := zdcg 11 zdT_dX2_readFactor_0 rfl
theorem dX2_readFactor_22 : decode cX2_readFactor 22 = .ok (.aload_n 0, 1) := zdcg 12 zdT_dX2_readFactor_0 rfl
theorem dX2_readFactor_23 : decode cX2_readFactor 23 = .ok (.iload_n 1, 1) := zdcg 13 zdT_dX2_readFactor_0 rfl
theorem dX2_readFactor_24 : decode cX2_readFactor 24 = .ok (.invokevirtual 129, 3) := zdcg 14 zdT_dX2_readFactor_0 rfl
theorem dX2_readFactor_27 : decode cX2_readFactor 27 = .ok (.ireturn, 1) := zdcg 15 zdT_dX2_readFactor_0 rfl
theorem dX2_readFactor_28 : decode cX2_readFactor 28 = .ok (.iload_n 2, 1) := zdcg 16 zdT_dX2_readFactor_0 rfl
theorem dX2_readFactor_29 : decode cX2_readFactor 29 = .ok (.lookupswitch 172 #[(40, 166), (68, 89), (77, 89), (80, 89), (83, 121), (88, 150), (91, 67)], 67) := zdcg 17 zdT_dX2_readFactor_0 rfl
theorem dX2_readFactor_96 : decode cX2_readFactor 96 = .ok (.aload_n 0, 1) := zdcg 18 zdT_dX2_readFactor_0 rfl
theorem dX2_readFactor_97 : decode cX2_readFactor 97 = .ok (.invokevirtual 132, 3) := zdcg 19 zdT_dX2_readFactor_0 rfl
theorem dX2_readFactor_100 : decode cX2_readFactor 100 = .ok (.ifCond .eq 16, 3) := zdcg 20 zdT_dX2_readFactor_0 rfl
theorem dX2_readFactor_103 : decode cX2_readFactor 103 = .ok (.aload_n 0, 1) := zdcg 21 zdT_dX2_readFactor_0 rfl
theorem dX2_readFactor_104 : decode cX2_readFactor 104 = .ok (.iload_n 1, 1) := zdcg 22 zdT_dX2_readFactor_0 rfl
theorem dX2_readFactor_105 : decode cX2_readFactor 105 = .ok (.iload_n 2, 1) := zdcg 23 zdT_dX2_readFactor_0 rfl
theorem dX2_readFactor_106 : decode cX2_readFactor 106 = .ok (.invokevirtual 136, 3) := zdcg 24 zdT_dX2_readFactor_0 rfl
theorem zdT_dX2_readFactor_109 : zdch cX2_readFactor [(109, (.ifCond .eq 7, 3)), (112, (.iconst 1, 1)), (113, (.goto 4, 3)), (116, (.iconst 0, 1)), (117, (.ireturn, 1)), (118, (.aload_n 0, 1)), (119, (.dup, 1)), (120, (.getfield 60, 3)), (123, (.iconst 1, 1)), (124, (.iadd, 1)), (125, (.putfield 60, 3)), (128, (.aload_n 0, 1)), (129, (.invokevirtual 132, 3)), (132, (.ifCond .eq 16, 3)), (135, (.aload_n 0, 1)), (136, (.iload_n 1, 1)), (137, (.iload_n 2, 1)), (138, (.invokevirtual 136, 3)), (141, (.ifCond .eq 7, 3)), (144, (.iconst 1, 1)), (145, (.goto 4, 3)), (148, (.iconst 0, 1)), (149, (.ireturn, 1)), (150, (.aload_n 0, 1)), (151, (.dup, 1))] = true := by decide +kernel
theorem dX2_readFactor_109 : decode cX2_readFactor 109 = .ok (.ifCond .eq 7, 3) := zdcg 0 zdT_dX2_readFactor_109 rfl
theorem dX2_readFactor_112 : decode cX2_readFactor 112 = .ok (.iconst 1, 1) := zdcg 1 zdT_dX2_readFactor_109 rfl
theorem dX2_readFactor_113 : decode cX2_readFactor 113 = .ok (.goto 4, 3) := zdcg 2 zdT_dX2_readFactor_109 rfl
theorem dX2_readFactor_116 : decode cX2_readFactor 116 = .ok (.iconst 0, 1) := zdcg 3 zdT_dX2_readFactor_109 rfl
theorem dX2_readFactor_117 : decode cX2_readFactor 117 = .ok (.ireturn, 1) := zdcg 4 zdT_dX2_readFactor_109 rfl
theorem dX2_readFactor_118 : decode cX2_readFactor 118 = .ok (.aload_n 0, 1) := zdcg 5 zdT_dX2_readFactor_109 rfl
theorem dX2_readFactor_119 : decode cX2_readFactor 119 = .ok (.dup, 1) := zdcg 6 zdT_dX2_readFactor_109 rfl
theorem dX2_readFactor_120 : decode cX2_readFactor 120 = .ok (.getfield 60, 3) := zdcg 7 zdT_dX2_readFactor_109 rfl
theorem dX2_readFactor_123 : decode cX2_readFactor 123 = .ok (.iconst 1, 1) := zdcg 8 zdT_dX2_readFactor_109 rfl
theorem dX2_readFactor_124 : decode cX2_readFactor 124 = .ok (.iadd, 1) := zdcg 9 zdT_dX2_readFactor_109 rfl
theorem dX2_readFactor_125 : decode cX2_readFactor 125 = .ok (.putfield 60, 3) := zdcg 10 zdT_dX2_readFactor_109 rfl
theorem dX2_readFactor_128 : decode cX2_readFactor 128 = .ok (.aload_n 0, 1) := zdcg 11 zdT_dX2_readFactor_109 rfl
theorem dX2_readFactor_129 : decode cX2_readFactor 129 = .ok (.invokevirtual 132, 3) := zdcg 12 zdT_dX2_readFactor_109 rfl
theorem dX2_readFactor_132 : decode cX2_readFactor 132 = .ok (.ifCond .eq 16, 3) := zdcg 13 zdT_dX2_readFactor_109 rfl
theorem dX2_readFactor_135 : decode cX2_readFactor 135 = .ok (.aload_n 0, 1) := zdcg 14 zdT_dX2_readFactor_109 rfl
theorem dX2_readFactor_136 : decode cX2_readFactor 136 = .ok (.iload_n 1, 1) := zdcg 15 zdT_dX2_readFactor_109 rfl
theorem dX2_readFactor_137 : decode cX2_readFactor 137 = .ok (.iload_n 2, 1) := zdcg 16 zdT_dX2_readFactor_109 rfl
theorem dX2_readFactor_138 : decode cX2_readFactor 138 = .ok (.invokevirtual 136, 3) := zdcg 17 zdT_dX2_readFactor_109 rfl
theorem dX2_readFactor_141 : decode cX2_readFactor 141 = .ok (.ifCond .eq 7, 3) := zdcg 18 zdT_dX2_readFactor_109 rfl
theorem dX2_readFactor_144 : decode cX2_readFactor 144 = .ok (.iconst 1, 1) := zdcg 19 zdT_dX2_readFactor_109 rfl
theorem dX2_readFactor_145 : decode cX2_readFactor 145 = .ok (.goto 4, 3) := zdcg 20 zdT_dX2_readFactor_109 rfl
theorem dX2_readFactor_148 : decode cX2_readFactor 148 = .ok (.iconst 0, 1) := zdcg 21 zdT_dX2_readFactor_109 rfl
theorem dX2_readFactor_149 : decode cX2_readFactor 149 = .ok (.ireturn, 1) := zdcg 22 zdT_dX2_readFactor_109 rfl
theorem dX2_readFactor_150 : decode cX2_readFactor 150 = .ok (.aload_n 0, 1) := zdcg 23 zdT_dX2_readFactor_109 rfl
theorem dX2_readFactor_151 : decode cX2_readFactor 151 = .ok (.dup, 1) := zdcg 24 zdT_dX2_readFactor_109 rfl
theorem zdT_dX2_readFactor_152 : zdch cX2_readFactor [(152, (.getfield 60, 3)), (155, (.iconst 1, 1)), (156, (.iadd, 1)), (157, (.putfield 60, 3)), (160, (.aload_n 0, 1)), (161, (.aload_n 0, 1)), (162, (.getfield 49, 3)), (165, (.getfield 140, 3)), (168, (.aload_n 0, 1)), (169, (.getfield 26, 3)), (172, (.iload_n 1, 1)), (173, (.aaload, 1)), (174, (.invokevirtual 143, 3)), (177, (.iconst 1, 1)), (178, (.ireturn, 1)), (179, (.aload_n 0, 1)), (180, (.dup, 1)), (181, (.getfield 60, 3)), (184, (.iconst 1, 1)), (185, (.iadd, 1)), (186, (.putfield 60, 3)), (189, (.aload_n 0, 1)), (190, (.iload_n 1, 1)), (191, (.invokevirtual 147, 3)), (194, (.ireturn, 1))] = true := by decide +kernel
theorem dX2_readFactor_152 : decode cX2_readFactor 152 = .ok (.getfield 60, 3) := zdcg 0 zdT_dX2_readFactor_152 rfl
theorem dX2_readFactor_155 : decode cX2_readFactor 155 = .ok (.iconst 1, 1) := zdcg 1 zdT_dX2_readFactor_152 rfl
theorem dX2_readFactor_156 : decode cX2_readFactor 156 = .ok (.iadd, 1) := zdcg 2 zdT_dX2_readFactor_152 rfl
theorem dX2_readFactor_157 : decode cX2_readFactor 157 = .ok (.putfield 60, 3) := zdcg 3 zdT_dX2_readFactor_152 rfl
theorem dX2_readFactor_160 : decode cX2_readFactor 160 = .ok (.aload_n 0, 1) := zdcg 4 zdT_dX2_readFactor_152 rfl
theorem dX2_readFactor_161 : decode cX2_readFactor 161 = .ok (.aload_n 0, 1) := zdcg 5 zdT_dX2_readFactor_152 rfl
theorem dX2_readFactor_162 : decode cX2_readFactor 162 = .ok (.getfield 49, 3) := zdcg 6 zdT_dX2_readFactor_152 rfl
theorem dX2_readFactor_165 : decode cX2_readFactor 165 = .ok (.getfield 140, 3) := zdcg 7 zdT_dX2_readFactor_152 rfl
theorem dX2_readFactor_168 : decode cX2_readFactor 168 = .ok (.aload_n 0, 1) := zdcg 8 zdT_dX2_readFactor_152 rfl
theorem dX2_readFactor_169 : decode cX2_readFactor 169 = .ok (.getfield 26, 3) := zdcg 9 zdT_dX2_readFactor_152 rfl
theorem dX2_readFactor_172 : decode cX2_readFactor 172 = .ok (.iload_n 1, 1) := zdcg 10 zdT_dX2_readFactor_152 rfl
theorem dX2_readFactor_173 : decode cX2_readFactor 173 = .ok (.aaload, 1) := zdcg 11 zdT_dX2_readFactor_152 rfl
theorem dX2_readFactor_174 : decode cX2_readFactor 174 = .ok (.invokevirtual 143, 3) := zdcg 12 zdT_dX2_readFactor_152 rfl
theorem dX2_readFactor_177 : decode cX2_readFactor 177 = .ok (.iconst 1, 1) := zdcg 13 zdT_dX2_readFactor_152 rfl
theorem dX2_readFactor_178 : decode cX2_readFactor 178 = .ok (.ireturn, 1) := zdcg 14 zdT_dX2_readFactor_152 rfl
theorem dX2_readFactor_179 : decode cX2_readFactor 179 = .ok (.aload_n 0, 1) := zdcg 15 zdT_dX2_readFactor_152 rfl
theorem dX2_readFactor_180 : decode cX2_readFactor 180 = .ok (.dup, 1) := zdcg 16 zdT_dX2_readFactor_152 rfl
theorem dX2_readFactor_181 : decode cX2_readFactor 181 = .ok (.getfield 60, 3) := zdcg 17 zdT_dX2_readFactor_152 rfl
theorem dX2_readFactor_184 : decode cX2_readFactor 184 = .ok (.iconst 1, 1) := zdcg 18 zdT_dX2_readFactor_152 rfl
theorem dX2_readFactor_185 : decode cX2_readFactor 185 = .ok (.iadd, 1) := zdcg 19 zdT_dX2_readFactor_152 rfl
theorem dX2_readFactor_186 : decode cX2_readFactor 186 = .ok (.putfield 60, 3) := zdcg 20 zdT_dX2_readFactor_152 rfl
theorem dX2_readFactor_189 : decode cX2_readFactor 189 = .ok (.aload_n 0, 1) := zdcg 21 zdT_dX2_readFactor_152 rfl
theorem dX2_readFactor_190 : decode cX2_readFactor 190 = .ok (.iload_n 1, 1) := zdcg 22 zdT_dX2_readFactor_152 rfl
theorem dX2_readFactor_191 : decode cX2_readFactor 191 = .ok (.invokevirtual 147, 3) := zdcg 23 zdT_dX2_readFactor_152 rfl
theorem dX2_readFactor_194 : decode cX2_readFactor 194 = .ok (.ireturn, 1) := zdcg 24 zdT_dX2_readFactor_152 rfl
theorem zdT_dX2_readFactor_195 : zdch cX2_readFactor [(195, (.aload_n 0, 1)), (196, (.iload_n 1, 1)), (197, (.invokevirtual 150, 3)), (200, (.ireturn, 1)), (201, (.aload_n 0, 1)), (202, (.aload_n 0, 1)), (203, (.getfield 60, 3)), (206, (.invokevirtual 78, 3)), (209, (.ireturn, 1))] = true := by decide +kernel
theorem dX2_readFactor_195 : decode cX2_readFactor 195 = .ok (.aload_n 0, 1) := zdcg 0 zdT_dX2_readFactor_195 rfl
theorem dX2_readFactor_196 : decode cX2_readFactor 196 = .ok (.iload_n 1, 1) := zdcg 1 zdT_dX2_readFactor_195 rfl
theorem dX2_readFactor_197 : decode cX2_readFactor 197 = .ok (.invokevirtual 150, 3) := zdcg 2 zdT_dX2_readFactor_195 rfl
theorem dX2_readFactor_200 : decode cX2_readFactor 200 = .ok (.ireturn, 1) := zdcg 3 zdT_dX2_readFactor_195 rfl
theorem dX2_readFactor_201 : decode cX2_readFactor 201 = .ok (.aload_n 0, 1) := zdcg 4 zdT_dX2_readFactor_195 rfl
theorem dX2_readFactor_202 : decode cX2_readFactor 202 = .ok (.aload_n 0, 1) := zdcg 5 zdT_dX2_readFactor_195 rfl
theorem dX2_readFactor_203 : decode cX2_readFactor 203 = .ok (.getfield 60, 3) := zdcg 6 zdT_dX2_readFactor_195 rfl
theorem dX2_readFactor_206 : decode cX2_readFactor 206 = .ok (.invokevirtual 78, 3) := zdcg 7 zdT_dX2_readFactor_195 rfl
theorem dX2_readFactor_209 : decode cX2_readFactor 209 = .ok (.ireturn, 1) := zdcg 8 zdT_dX2_readFactor_195 rfl
theorem zdT_dX2_readConstant_0 : zdch cX2_readConstant [(0, (.aload_n 0, 1)), (1, (.invokevirtual 153, 3)), (4, (.istore_n 2, 1)), (5, (.iload_n 2, 1)), (6, (.iconst (-1), 1)), (7, (.if_icmp .ne 5, 3)), (10, (.iconst 0, 1)), (11, (.ireturn, 1)), (12, (.aload_n 0, 1)), (13, (.getfield 26, 3)), (16, (.iload_n 1, 1)), (17, (.aaload, 1)), (18, (.iload_n 2, 1)), (19, (.i2l, 1)), (20, (.invokestatic 64, 3)), (23, (.iconst 1, 1)), (24, (.ireturn, 1))] = true := by decide +kernel
theorem dX2_readConstant_0 : decode cX2_readConstant 0 = .ok (.aload_n 0, 1) := zdcg 0 zdT_dX2_readConstant_0 rfl
theorem dX2_readConstant_1 : decode cX2_readConstant 1 = .ok (.invokevirtual 153, 3) := zdcg 1 zdT_dX2_readConstant_0 rfl
theorem dX2_readConstant_4 : decode cX2_readConstant 4 = .ok (.istore_n 2, 1) := zdcg 2 zdT_dX2_readConstant_0 rfl
theorem dX2_readConstant_5 : decode cX2_readConstant 5 = .ok (.iload_n 2, 1) := zdcg 3 zdT_dX2_readConstant_0 rfl
theorem dX2_readConstant_6 : decode cX2_readConstant 6 = .ok (.iconst (-1), 1) := zdcg 4 zdT_dX2_readConstant_0 rfl
theorem dX2_readConstant_7 : decode cX2_readConstant 7 = .ok (.if_icmp .ne 5, 3) := zdcg 5 zdT_dX2_readConstant_0 rfl
theorem dX2_readConstant_10 : decode cX2_readConstant 10 = .ok (.iconst 0, 1) := zdcg 6 zdT_dX2_readConstant_0 rfl
theorem dX2_readConstant_11 : decode cX2_readConstant 11 = .ok (.ireturn, 1) := zdcg 7 zdT_dX2_readConstant_0 rfl
theorem dX2_readConstant_12 : decode cX2_readConstant 12 = .ok (.aload_n 0, 1) := zdcg 8 zdT_dX2_readConstant_0 rfl
theorem dX2_readConstant_13 : decode cX2_readConstant 13 = .ok (.getfield 26, 3) := zdcg 9 zdT_dX2_readConstant_0 rfl
theorem dX2_readConstant_16 : decode cX2_readConstant 16 = .ok (.iload_n 1, 1) := zdcg 10 zdT_dX2_readConstant_0 rfl
theorem dX2_readConstant_17 : decode cX2_readConstant 17 = .ok (.aaload, 1) := zdcg 11 zdT_dX2_readConstant_0 rfl
theorem dX2_readConstant_18 : decode cX2_readConstant 18 = .ok (.iload_n 2, 1) := zdcg 12 zdT_dX2_readConstant_0 rfl
theorem dX2_readConstant_19 : decode cX2_readConstant 19 = .ok (.i2l, 1) := zdcg 13 zdT_dX2_readConstant_0 rfl
theorem dX2_readConstant_20 : decode cX2_readConstant 20 = .ok (.invokestatic 64, 3) := zdcg 14 zdT_dX2_readConstant_0 rfl
theorem dX2_readConstant_23 : decode cX2_readConstant 23 = .ok (.iconst 1, 1) := zdcg 15 zdT_dX2_readConstant_0 rfl
theorem dX2_readConstant_24 : decode cX2_readConstant 24 = .ok (.ireturn, 1) := zdcg 16 zdT_dX2_readConstant_0 rfl
theorem zdT_dX2_readSlot_0 : zdch cX2_readSlot [(0, (.aload_n 0, 1)), (1, (.invokevirtual 74, 3)), (4, (.pop, 1)), (5, (.aload_n 0, 1)), (6, (.getfield 60, 3)), (9, (.istore_n 2, 1)), (10, (.aload_n 0, 1)), (11, (.invokevirtual 153, 3)), (14, (.istore_n 3, 1)), (15, (.iload_n 3, 1)), (16, (.iconst (-1), 1)), (17, (.if_icmp .ne 5, 3)), (20, (.iconst 0, 1)), (21, (.ireturn, 1)), (22, (.iload_n 3, 1)), (23, (.invokestatic 156, 3)), (26, (.ifCond .ne 12, 3)), (29, (.aload_n 0, 1)), (30, (.iconst 4, 1)), (31, (.iload_n 2, 1)), (32, (.iload_n 1, 1)), (33, (.iconst 0, 1)), (34, (.invokevirtual 115, 3)), (37, (.ireturn, 1)), (38, (.aload_n 0, 1))] = true := by decide +kernel
theorem dX2_readSlot_0 : decode cX2_readSlot 0 = .ok (.aload_n 0, 1) := zdcg 0 zdT_dX2_readSlot_0 rfl
theorem dX2_readSlot_1 : decode cX2_readSlot 1 = .ok (.invokevirtual 74, 3) := zdcg 1 zdT_dX2_readSlot_0 rfl
theorem dX2_readSlot_4 : decode cX2_readSlot 4 = .ok (.pop, 1) := zdcg 2 zdT_dX2_readSlot_0 rfl
theorem dX2_readSlot_5 : decode cX2_readSlot 5 = .ok (.aload_n 0, 1) := zdcg 3 zdT_dX2_readSlot_0 rfl
theorem dX2_readSlot_6 : decode cX2_readSlot 6 = .ok (.getfield 60, 3) := zdcg 4 zdT_dX2_readSlot_0 rfl
theorem dX2_readSlot_9 : decode cX2_readSlot 9 = .ok (.istore_n 2, 1) := zdcg 5 zdT_dX2_readSlot_0 rfl
theorem dX2_readSlot_10 : decode cX2_readSlot 10 = .ok (.aload_n 0, 1) := zdcg 6 zdT_dX2_readSlot_0 rfl
theorem dX2_readSlot_11 : decode cX2_readSlot 11 = .ok (.invokevirtual 153, 3) := zdcg 7 zdT_dX2_readSlot_0 rfl
theorem dX2_readSlot_14 : decode cX2_readSlot 14 = .ok (.istore_n 3, 1) := zdcg 8 zdT_dX2_readSlot_0 rfl
theorem dX2_readSlot_15 : decode cX2_readSlot 15 = .ok (.iload_n 3, 1) := zdcg 9 zdT_dX2_readSlot_0 rfl
theorem dX2_readSlot_16 : decode cX2_readSlot 16 = .ok (.iconst (-1), 1) := zdcg 10 zdT_dX2_readSlot_0 rfl
theorem dX2_readSlot_17 : decode cX2_readSlot 17 = .ok (.if_icmp .ne 5, 3) := zdcg 11 zdT_dX2_readSlot_0 rfl
theorem dX2_readSlot_20 : decode cX2_readSlot 20 = .ok (.iconst 0, 1) := zdcg 12 zdT_dX2_readSlot_0 rfl
theorem dX2_readSlot_21 : decode cX2_readSlot 21 = .ok (.ireturn, 1) := zdcg 13 zdT_dX2_readSlot_0 rfl
theorem dX2_readSlot_22 : decode cX2_readSlot 22 = .ok (.iload_n 3, 1) := zdcg 14 zdT_dX2_readSlot_0 rfl
theorem dX2_readSlot_23 : decode cX2_readSlot 23 = .ok (.invokestatic 156, 3) := zdcg 15 zdT_dX2_readSlot_0 rfl
theorem dX2_readSlot_26 : decode cX2_readSlot 26 = .ok (.ifCond .ne 12, 3) := zdcg 16 zdT_dX2_readSlot_0 rfl
theorem dX2_readSlot_29 : decode cX2_readSlot 29 = .ok (.aload_n 0, 1) := zdcg 17 zdT_dX2_readSlot_0 rfl
theorem dX2_readSlot_30 : decode cX2_readSlot 30 = .ok (.iconst 4, 1) := zdcg 18 zdT_dX2_readSlot_0 rfl
theorem dX2_readSlot_31 : decode cX2_readSlot 31 = .ok (.iload_n 2, 1) := zdcg 19 zdT_dX2_readSlot_0 rfl
theorem dX2_readSlot_32 : decode cX2_readSlot 32 = .ok (.iload_n 1, 1) := zdcg 20 zdT_dX2_readSlot_0 rfl
theorem dX2_readSlot_33 : decode cX2_readSlot 33 = .ok (.iconst 0, 1) := zdcg 21 zdT_dX2_readSlot_0 rfl
theorem dX2_readSlot_34 : decode cX2_readSlot 34 = .ok (.invokevirtual 115, 3) := zdcg 22 zdT_dX2_readSlot_0 rfl
theorem dX2_readSlot_37 : decode cX2_readSlot 37 = .ok (.ireturn, 1) := zdcg 23 zdT_dX2_readSlot_0 rfl
theorem dX2_readSlot_38 : decode cX2_readSlot 38 = .ok (.aload_n 0, 1) := zdcg 24 zdT_dX2_readSlot_0 rfl
theorem zdT_dX2_readSlot_39 : zdch cX2_readSlot [(39, (.getfield 46, 3)), (42, (.iload_n 3, 1)), (43, (.aaload, 1)), (44, (.iconst 0, 1)), (45, (.aload_n 0, 1)), (46, (.getfield 26, 3)), (49, (.iload_n 1, 1)), (50, (.aaload, 1)), (51, (.iconst 0, 1)), (52, (.aload_n 0, 1)), (53, (.getfield 49, 3)), (56, (.getfield 100, 3)), (59, (.invokestatic 105, 3)), (62, (.iconst 1, 1)), (63, (.ireturn, 1))] = true := by decide +kernel
theorem dX2_readSlot_39 : decode cX2_readSlot 39 = .ok (.getfield 46, 3) := zdcg 0 zdT_dX2_readSlot_39 rfl
theorem dX2_readSlot_42 : decode cX2_readSlot 42 = .ok (.iload_n 3, 1) := zdcg 1 zdT_dX2_readSlot_39 rfl
theorem dX2_readSlot_43 : decode cX2_readSlot 43 = .ok (.aaload, 1) := zdcg 2 zdT_dX2_readSlot_39 rfl
theorem dX2_readSlot_44 : decode cX2_readSlot 44 = .ok (.iconst 0, 1) := zdcg 3 zdT_dX2_readSlot_39 rfl
theorem dX2_readSlot_45 : decode cX2_readSlot 45 = .ok (.aload_n 0, 1) := zdcg 4 zdT_dX2_readSlot_39 rfl
theorem dX2_readSlot_46 : decode cX2_readSlot 46 = .ok (.getfield 26, 3) := zdcg 5 zdT_dX2_readSlot_39 rfl
theorem dX2_readSlot_49 : decode cX2_readSlot 49 = .ok (.iload_n 1, 1) := zdcg 6 zdT_dX2_readSlot_39 rfl
theorem dX2_readSlot_50 : decode cX2_readSlot 50 = .ok (.aaload, 1) := zdcg 7 zdT_dX2_readSlot_39 rfl
theorem dX2_readSlot_51 : decode cX2_readSlot 51 = .ok (.iconst 0, 1) := zdcg 8 zdT_dX2_readSlot_39 rfl
theorem dX2_readSlot_52 : decode cX2_readSlot 52 = .ok (.aload_n 0, 1) := zdcg 9 zdT_dX2_readSlot_39 rfl
theorem dX2_readSlot_53 : decode cX2_readSlot 53 = .ok (.getfield 49, 3) := zdcg 10 zdT_dX2_readSlot_39 rfl
theorem dX2_readSlot_56 : decode cX2_readSlot 56 = .ok (.getfield 100, 3) := zdcg 11 zdT_dX2_readSlot_39 rfl
theorem dX2_readSlot_59 : decode cX2_readSlot 59 = .ok (.invokestatic 105, 3) := zdcg 12 zdT_dX2_readSlot_39 rfl
theorem dX2_readSlot_62 : decode cX2_readSlot 62 = .ok (.iconst 1, 1) := zdcg 13 zdT_dX2_readSlot_39 rfl
theorem dX2_readSlot_63 : decode cX2_readSlot 63 = .ok (.ireturn, 1) := zdcg 14 zdT_dX2_readSlot_39 rfl
theorem zdT_dX2_readInBrackets_0 : zdch cX2_readInBrackets [(0, (.iload_n 1, 1)), (1, (.iconst 1, 1)), (2, (.iadd, 1)), (3, (.iconst 5, 1)), (4, (.if_icmp .lt 15, 3)), (7, (.aload_n 0, 1)), (8, (.iconst 5, 1)), (9, (.aload_n 0, 1)), (10, (.getfield 60, 3)), (13, (.iload_n 1, 1)), (14, (.iconst 0, 1)), (15, (.invokevirtual 115, 3)), (18, (.ireturn, 1)), (19, (.aload_n 0, 1)), (20, (.dup, 1)), (21, (.getfield 60, 3)), (24, (.iconst 1, 1)), (25, (.iadd, 1)), (26, (.putfield 60, 3)), (29, (.aload_n 0, 1)), (30, (.iload_n 1, 1)), (31, (.iconst 1, 1)), (32, (.iadd, 1)), (33, (.invokevirtual 70, 3)), (36, (.ifCond .ne 5, 3))] = true := by decide +kernel
theorem dX2_readInBrackets_0 : decode cX2_readInBrackets 0 = .ok (.iload_n 1, 1) := zdcg 0 zdT_dX2_readInBrackets_0 rfl
theorem dX2_readInBrackets_1 : decode cX2_readInBrackets 1 = .ok (.iconst 1, 1) := zdcg 1 zdT_dX2_readInBrackets_0 rfl
theorem dX2_readInBrackets_2 : decode cX2_readInBrackets 2 = .ok (.iadd, 1) := zdcg 2 zdT_dX2_readInBrackets_0 rfl
theorem dX2_readInBrackets_3 : decode cX2_readInBrackets 3 = .ok (.iconst 5, 1) := zdcg 3 zdT_dX2_readInBrackets_0 rfl
theorem dX2_readInBrackets_4 : decode cX2_readInBrackets 4 = .ok (.if_icmp .lt 15, 3) := zdcg 4 zdT_dX2_readInBrackets_0 rfl
theorem dX2_readInBrackets_7 : decode cX2_readInBrackets 7 = .ok (.aload_n 0, 1) := zdcg 5 zdT_dX2_readInBrackets_0 rfl
theorem dX2_readInBrackets_8 : decode cX2_readInBrackets 8 = .ok (.iconst 5, 1) := zdcg 6 zdT_dX2_readInBrackets_0 rfl
theorem dX2_readInBrackets_9 : decode cX2_readInBrackets 9 = .ok (.aload_n 0, 1) := zdcg 7 zdT_dX2_readInBrackets_0 rfl
theorem dX2_readInBrackets_10 : decode cX2_readInBrackets 10 = .ok (.getfield 60, 3) := zdcg 8 zdT_dX2_readInBrackets_0 rfl
theorem dX2_readInBrackets_13 : decode cX2_readInBrackets 13 = .ok (.iload_n 1, 1) := zdcg 9 zdT_dX2_readInBrackets_0 rfl
theorem dX2_readInBrackets_14 : decode cX2_readInBrackets 14 = .ok (.iconst 0, 1) := zdcg 10 zdT_dX2_readInBrackets_0 rfl
theorem dX2_readInBrackets_15 : decode cX2_readInBrackets 15 = .ok (.invokevirtual 115, 3) := zdcg 11 zdT_dX2_readInBrackets_0 rfl
theorem dX2_readInBrackets_18 : decode cX2_readInBrackets 18 = .ok (.ireturn, 1) := zdcg 12 zdT_dX2_readInBrackets_0 rfl
theorem dX2_readInBrackets_19 : decode cX2_readInBrackets 19 = .ok (.aload_n 0, 1) := zdcg 13 zdT_dX2_readInBrackets_0 rfl
theorem dX2_readInBrackets_20 : decode cX2_readInBrackets 20 = .ok (.dup, 1) := zdcg 14 zdT_dX2_readInBrackets_0 rfl
theorem dX2_readInBrackets_21 : decode cX2_readInBrackets 21 = .ok (.getfield 60, 3) := zdcg 15 zdT_dX2_readInBrackets_0 rfl
theorem dX2_readInBrackets_24 : decode cX2_readInBrackets 24 = .ok (.iconst 1, 1) := zdcg 16 zdT_dX2_readInBrackets_0 rfl
theorem dX2_readInBrackets_25 : decode cX2_readInBrackets 25 = .ok (.iadd, 1) := zdcg 17 zdT_dX2_readInBrackets_0 rfl
theorem dX2_readInBrackets_26 : decode cX2_readInBrackets 26 = .ok (.putfield 60, 3) := zdcg 18 zdT_dX2_readInBrackets_0 rfl
theorem dX2_readInBrackets_29 : decode cX2_readInBrackets 29 = .ok (.aload_n 0, 1) := zdcg 19 zdT_dX2_readInBrackets_0 rfl
theorem dX2_readInBrackets_30 : decode cX2_readInBrackets 30 = .ok (.iload_n 1, 1) := zdcg 20 zdT_dX2_readInBrackets_0 rfl
theorem dX2_readInBrackets_31 : decode cX2_readInBrackets 31 = .ok (.iconst 1, 1) := zdcg 21 zdT_dX2_readInBrackets_0 rfl
theorem dX2_readInBrackets_32 : decode cX2_readInBrackets 32 = .ok (.iadd, 1) := zdcg 22 zdT_dX2_readInBrackets_0 rfl
theorem dX2_readInBrackets_33 : decode cX2_readInBrackets 33 = .ok (.invokevirtual 70, 3) := zdcg 23 zdT_dX2_readInBrackets_0 rfl
theorem dX2_readInBrackets_36 : decode cX2_readInBrackets 36 = .ok (.ifCond .ne 5, 3) := zdcg 24 zdT_dX2_readInBrackets_0 rfl
theorem zdT_dX2_readInBrackets_39 : zdch cX2_readInBrackets [(39, (.iconst 0, 1)), (40, (.ireturn, 1)), (41, (.aload_n 0, 1)), (42, (.invokevirtual 74, 3)), (45, (.bipush 41, 2)), (47, (.if_icmp .eq 12, 3)), (50, (.aload_n 0, 1)), (51, (.aload_n 0, 1)), (52, (.getfield 60, 3)), (55, (.invokevirtual 78, 3)), (58, (.ireturn, 1)), (59, (.aload_n 0, 1)), (60, (.dup, 1)), (61, (.getfield 60, 3)), (64, (.iconst 1, 1)), (65, (.iadd, 1)), (66, (.putfield 60, 3)), (69, (.aload_n 0, 1)), (70, (.getfield 20, 3)), (73, (.iload_n 1, 1)), (74, (.iconst 1, 1)), (75, (.iadd, 1)), (76, (.aaload, 1)), (77, (.iconst 0, 1)), (78, (.aload_n 0, 1))] = true := by decide +kernel
theorem dX2_readInBrackets_39 : decode cX2_readInBrackets 39 = .ok (.iconst 0, 1) := zdcg 0 zdT_dX2_readInBrackets_39 rfl
theorem dX2_readInBrackets_40 : decode cX2_readInBrackets 40 = .ok (.ireturn, 1) := zdcg 1 zdT_dX2_readInBrackets_39 rfl
theorem dX2_readInBrackets_41 : decode cX2_readInBrackets 41 = .ok (.aload_n 0, 1) := zdcg 2 zdT_dX2_readInBrackets_39 rfl
theorem dX2_readInBrackets_42 : decode cX2_readInBrackets 42 = .ok (.invokevirtual 74, 3) := zdcg 3 zdT_dX2_readInBrackets_39 rfl
theorem dX2_readInBrackets_45 : decode cX2_readInBrackets 45 = .ok (.bipush 41, 2) := zdcg 4 zdT_dX2_readInBrackets_39 rfl
theorem dX2_readInBrackets_47 : decode cX2_readInBrackets 47 = .ok (.if_icmp .eq 12, 3) := zdcg 5 zdT_dX2_readInBrackets_39 rfl
theorem dX2_readInBrackets_50 : decode cX2_readInBrackets 50 = .ok (.aload_n 0, 1) := zdcg 6 zdT_dX2_readInBrackets_39 rfl
theorem dX2_readInBrackets_51 : decode cX2_readInBrackets 51 = .ok (.aload_n 0, 1) := zdcg 7 zdT_dX2_readInBrackets_39 rfl
theorem dX2_readInBrackets_52 : decode cX2_readInBrackets 52 = .ok (.getfield 60, 3) := zdcg 8 zdT_dX2_readInBrackets_39 rfl
theorem dX2_readInBrackets_55 : decode cX2_readInBrackets 55 = .ok (.invokevirtual 78, 3) := zdcg 9 zdT_dX2_readInBrackets_39 rfl
theorem dX2_readInBrackets_58 : decode cX2_readInBrackets 58 = .ok (.ireturn, 1) := zdcg 10 zdT_dX2_readInBrackets_39 rfl
theorem dX2_readInBrackets_59 : decode cX2_readInBrackets 59 = .ok (.aload_n 0, 1) := zdcg 11 zdT_dX2_readInBrackets_39 rfl
theorem dX2_readInBrackets_60 : decode cX2_readInBrackets 60 = .ok (.dup, 1) := zdcg 12 zdT_dX2_readInBrackets_39 rfl
theorem dX2_readInBrackets_61 : decode cX2_readInBrackets 61 = .ok (.getfield 60, 3) := zdcg 13 zdT_dX2_readInBrackets_39 rfl
theorem dX2_readInBrackets_64 : decode cX2_readInBrackets 64 = .ok (.iconst 1, 1) := zdcg 14 zdT_dX2_readInBrackets_39 rfl
theorem dX2_readInBrackets_65 : decode cX2_readInBrackets 65 = .ok (.iadd, 1) := zdcg 15 zdT_dX2_readInBrackets_39 rfl
theorem dX2_readInBrackets_66 : decode cX2_readInBrackets 66 = .ok (.putfield 60, 3) := zdcg 16 zdT_dX2_readInBrackets_39 rfl
theorem dX2_readInBrackets_69 : decode cX2_readInBrackets 69 = .ok (.aload_n 0, 1) := zdcg 17 zdT_dX2_readInBrackets_39 rfl
theorem dX2_readInBrackets_70 : decode cX2_readInBrackets 70 = .ok (.getfield 20, 3) := zdcg 18 zdT_dX2_readInBrackets_39 rfl
theorem dX2_readInBrackets_73 : decode cX2_readInBrackets 73 = .ok (.iload_n 1, 1) := zdcg 19 zdT_dX2_readInBrackets_39 rfl
theorem dX2_readInBrackets_74 : decode cX2_readInBrackets 74 = .ok (.iconst 1, 1) := zdcg 20 zdT_dX2_readInBrackets_39 rfl
theorem dX2_readInBrackets_75 : decode cX2_readInBrackets 75 = .ok (.iadd, 1) := zdcg 21 zdT_dX2_readInBrackets_39 rfl
theorem dX2_readInBrackets_76 : decode cX2_readInBrackets 76 = .ok (.aaload, 1) := zdcg 22 zdT_dX2_readInBrackets_39 rfl
theorem dX2_readInBrackets_77 : decode cX2_readInBrackets 77 = .ok (.iconst 0, 1) := zdcg 23 zdT_dX2_readInBrackets_39 rfl
theorem dX2_readInBrackets_78 : decode cX2_readInBrackets 78 = .ok (.aload_n 0, 1) := zdcg 24 zdT_dX2_readInBrackets_39 rfl
theorem zdT_dX2_readInBrackets_79 : zdch cX2_readInBrackets [(79, (.getfield 26, 3)), (82, (.iload_n 1, 1)), (83, (.aaload, 1)), (84, (.iconst 0, 1)), (85, (.aload_n 0, 1)), (86, (.getfield 49, 3)), (89, (.getfield 100, 3)), (92, (.invokestatic 105, 3)), (95, (.iconst 1, 1)), (96, (.ireturn, 1))] = true := by decide +kernel
theorem dX2_readInBrackets_79 : decode cX2_readInBrackets 79 = .ok (.getfield 26, 3) := zdcg 0 zdT_dX2_readInBrackets_79 rfl
theorem dX2_readInBrackets_82 : decode cX2_readInBrackets 82 = .ok (.iload_n 1, 1) := zdcg 1 zdT_dX2_readInBrackets_79 rfl
theorem dX2_readInBrackets_83 : decode cX2_readInBrackets 83 = .ok (.aaload, 1) := zdcg 2 zdT_dX2_readInBrackets_79 rfl
theorem dX2_readInBrackets_84 : decode cX2_readInBrackets 84 = .ok (.iconst 0, 1) := zdcg 3 zdT_dX2_readInBrackets_79 rfl
theorem dX2_readInBrackets_85 : decode cX2_readInBrackets 85 = .ok (.aload_n 0, 1) := zdcg 4 zdT_dX2_readInBrackets_79 rfl
theorem dX2_readInBrackets_86 : decode cX2_readInBrackets 86 = .ok (.getfield 49, 3) := zdcg 5 zdT_dX2_readInBrackets_79 rfl
theorem dX2_readInBrackets_89 : decode cX2_readInBrackets 89 = .ok (.getfield 100, 3) := zdcg 6 zdT_dX2_readInBrackets_79 rfl
theorem dX2_readInBrackets_92 : decode cX2_readInBrackets 92 = .ok (.invokestatic 105, 3) := zdcg 7 zdT_dX2_readInBrackets_79 rfl
theorem dX2_readInBrackets_95 : decode cX2_readInBrackets 95 = .ok (.iconst 1, 1) := zdcg 8 zdT_dX2_readInBrackets_79 rfl
theorem dX2_readInBrackets_96 : decode cX2_readInBrackets 96 = .ok (.ireturn, 1) := zdcg 9 zdT_dX2_readInBrackets_79 rfl
theorem zdT_dX2_readList_0 : zdch cX2_readList [(0, (.aload_n 0, 1)), (1, (.invokevirtual 74, 3)), (4, (.bipush 91, 2)), (6, (.if_icmp .eq 12, 3)), (9, (.aload_n 0, 1)), (10, (.aload_n 0, 1)), (11, (.getfield 60, 3)), (14, (.invokevirtual 78, 3)), (17, (.ireturn, 1)), (18, (.aload_n 0, 1)), (19, (.aload_n 0, 1)), (20, (.getfield 60, 3)), (23, (.putfield 159, 3)), (26, (.aload_n 0, 1)), (27, (.iconst 0, 1)), (28, (.putfield 162, 3)), (31, (.iconst 0, 1)), (32, (.istore_n 1, 1)), (33, (.iload_n 1, 1)), (34, (.sipush 200, 3)), (37, (.if_icmp .ge 101, 3)), (40, (.aload_n 0, 1)), (41, (.dup, 1)), (42, (.getfield 60, 3)), (45, (.iconst 1, 1))] = true := by decide +kernel
theorem dX2_readList_0 : decode cX2_readList 0 = .ok (.aload_n 0, 1) := zdcg 0 zdT_dX2_readList_0 rfl
theorem dX2_readList_1 : decode cX2_readList 1 = .ok (.invokevirtual 74, 3) := zdcg 1 zdT_dX2_readList_0 rfl
theorem dX2_readList_4 : decode cX2_readList 4 = .ok (.bipush 91, 2) := zdcg 2 zdT_dX2_readList_0 rfl
theorem dX2_readList_6 : decode cX2_readList 6 = .ok (.if_icmp .eq 12, 3) := zdcg 3 zdT_dX2_readList_0 rfl
theorem dX2_readList_9 : decode cX2_readList 9 = .ok (.aload_n 0, 1) := zdcg 4 zdT_dX2_readList_0 rfl
theorem dX2_readList_10 : decode cX2_readList 10 = .ok (.aload_n 0, 1) := zdcg 5 zdT_dX2_readList_0 rfl
theorem dX2_readList_11 : decode cX2_readList 11 = .ok (.getfield 60, 3) := zdcg 6 zdT_dX2_readList_0 rfl
theorem dX2_readList_14 : decode cX2_readList 14 = .ok (.invokevirtual 78, 3) := zdcg 7 zdT_dX2_readList_0 rfl
theorem dX2_readList_17 : decode cX2_readList 17 = .ok (.ireturn, 1) := zdcg 8 zdT_dX2_readList_0 rfl
theorem dX2_readList_18 : decode cX2_readList 18 = .ok (.aload_n 0, 1) := zdcg 9 zdT_dX2_readList_0 rfl
theorem dX2_readList_19 : decode cX2_readList 19 = .ok (.aload_n 0, 1) := zdcg 10 zdT_dX2_readList_0 rfl
theorem dX2_readList_20 : decode cX2_readList 20 = .ok (.getfield 60, 3) := zdcg 11 zdT_dX2_readList_0 rfl
theorem dX2_readList_23 : decode cX2_readList 23 = .ok (.putfield 159, 3) := zdcg 12 zdT_dX2_readList_0 rfl
theorem dX2_readList_26 : decode cX2_readList 26 = .ok (.aload_n 0, 1) := zdcg 13 zdT_dX2_readList_0 rfl
theorem dX2_readList_27 : decode cX2_readList 27 = .ok (.iconst 0, 1) := zdcg 14 zdT_dX2_readList_0 rfl
theorem dX2_readList_28 : decode cX2_readList 28 = .ok (.putfield 162, 3) := zdcg 15 zdT_dX2_readList_0 rfl
theorem dX2_readList_31 : decode cX2_readList 31 = .ok (.iconst 0, 1) := zdcg 16 zdT_dX2_readList_0 rfl
theorem dX2_readList_32 : decode cX2_readList 32 = .ok (.istore_n 1, 1) := zdcg 17 zdT_dX2_readList_0 rfl
theorem dX2_readList_33 : decode cX2_readList 33 = .ok (.iload_n 1, 1) := zdcg 18 zdT_dX2_readList_0 rfl
theorem dX2_readList_34 : decode cX2_readList 34 = .ok (.sipush 200, 3) := zdcg 19 zdT_dX2_readList_0 rfl
theorem dX2_readList_37 : decode cX2_readList 37 = .ok (.if_icmp .ge 101, 3) := zdcg 20 zdT_dX2_readList_0 rfl
theorem dX2_readList_40 : decode cX2_readList 40 = .ok (.aload_n 0, 1) := zdcg 21 zdT_dX2_readList_0 rfl
theorem dX2_readList_41 : decode cX2_readList 41 = .ok (.dup, 1) := zdcg 22 zdT_dX2_readList_0 rfl
theorem dX2_readList_42 : decode cX2_readList 42 = .ok (.getfield 60, 3) := zdcg 23 zdT_dX2_readList_0 rfl
theorem dX2_readList_45 : decode cX2_readList 45 = .ok (.iconst 1, 1) := zdcg 24 zdT_dX2_readList_0 rfl
theorem zdT_dX2_readList_46 : zdch cX2_readList [(46, (.iadd, 1)), (47, (.putfield 60, 3)), (50, (.aload_n 0, 1)), (51, (.invokevirtual 153, 3)), (54, (.istore_n 2, 1)), (55, (.iload_n 2, 1)), (56, (.iconst (-1), 1)), (57, (.if_icmp .ne 5, 3)), (60, (.iconst 0, 1)), (61, (.ireturn, 1)), (62, (.aload_n 0, 1)), (63, (.getfield 162, 3)), (66, (.aload_n 0, 1)), (67, (.getfield 39, 3)), (70, (.arraylength, 1)), (71, (.if_icmp .ge 13, 3)), (74, (.aload_n 0, 1)), (75, (.getfield 39, 3)), (78, (.aload_n 0, 1)), (79, (.getfield 162, 3)), (82, (.iload_n 2, 1)), (83, (.iastore, 1)), (84, (.aload_n 0, 1)), (85, (.dup, 1)), (86, (.getfield 162, 3))] = true := by decide +kernel
theorem dX2_readList_46 : decode cX2_readList 46 = .ok (.iadd, 1) := zdcg 0 zdT_dX2_readList_46 rfl
theorem dX2_readList_47 : decode cX2_readList 47 = .ok (.putfield 60, 3) := zdcg 1 zdT_dX2_readList_46 rfl
theorem dX2_readList_50 : decode cX2_readList 50 = .ok (.aload_n 0, 1) := zdcg 2 zdT_dX2_readList_46 rfl
theorem dX2_readList_51 : decode cX2_readList 51 = .ok (.invokevirtual 153, 3) := zdcg 3 zdT_dX2_readList_46 rfl
theorem dX2_readList_54 : decode cX2_readList 54 = .ok (.istore_n 2, 1) := zdcg 4 zdT_dX2_readList_46 rfl
theorem dX2_readList_55 : decode cX2_readList 55 = .ok (.iload_n 2, 1) := zdcg 5 zdT_dX2_readList_46 rfl
theorem dX2_readList_56 : decode cX2_readList 56 = .ok (.iconst (-1), 1) := zdcg 6 zdT_dX2_readList_46 rfl
theorem dX2_readList_57 : decode cX2_readList 57 = .ok (.if_icmp .ne 5, 3) := zdcg 7 zdT_dX2_readList_46 rfl
theorem dX2_readList_60 : decode cX2_readList 60 = .ok (.iconst 0, 1) := zdcg 8 zdT_dX2_readList_46 rfl
theorem dX2_readList_61 : decode cX2_readList 61 = .ok (.ireturn, 1) := zdcg 9 zdT_dX2_readList_46 rfl
theorem dX2_readList_62 : decode cX2_readList 62 = .ok (.aload_n 0, 1) := zdcg 10 zdT_dX2_readList_46 rfl
theorem dX2_readList_63 : decode cX2_readList 63 = .ok (.getfield 162, 3) := zdcg 11 zdT_dX2_readList_46 rfl
theorem dX2_readList_66 : decode cX2_readList 66 = .ok (.aload_n 0, 1) := zdcg 12 zdT_dX2_readList_46 rfl
theorem dX2_readList_67 : decode cX2_readList 67 = .ok (.getfield 39, 3) := zdcg 13 zdT_dX2_readList_46 rfl
theorem dX2_readList_70 : decode cX2_readList 70 = .ok (.arraylength, 1) := zdcg 14 zdT_dX2_readList_46 rfl
theorem dX2_readList_71 : decode cX2_readList 71 = .ok (.if_icmp .ge 13, 3) := zdcg 15 zdT_dX2_readList_46 rfl
theorem dX2_readList_74 : decode cX2_readList 74 = .ok (.aload_n 0, 1) := zdcg 16 zdT_dX2_readList_46 rfl
theorem dX2_readList_75 : decode cX2_readList 75 = .ok (.getfield 39, 3) := zdcg 17 zdT_dX2_readList_46 rfl
theorem dX2_readList_78 : decode cX2_readList 78 = .ok (.aload_n 0, 1) := zdcg 18 zdT_dX2_readList_46 rfl
theorem dX2_readList_79 : decode cX2_readList 79 = .ok (.getfield 162, 3) := zdcg 19 zdT_dX2_readList_46 rfl
theorem dX2_readList_82 : decode cX2_readList 82 = .ok (.iload_n 2, 1) := zdcg 20 zdT_dX2_readList_46 rfl
theorem dX2_readList_83 : decode cX2_readList 83 = .ok (.iastore, 1) := zdcg 21 zdT_dX2_readList_46 rfl
theorem dX2_readList_84 : decode cX2_readList 84 = .ok (.aload_n 0, 1) := zdcg 22 zdT_dX2_readList_46 rfl
theorem dX2_readList_85 : decode cX2_readList 85 = .ok (.dup, 1) := zdcg 23 zdT_dX2_readList_46 rfl
theorem dX2_readList_86 : decode cX2_readList 86 = .ok (.getfield 162, 3) := zdcg 24 zdT_dX2_readList_46 rfl
theorem zdT_dX2_readList_89 : zdch cX2_readList [(89, (.iconst 1, 1)), (90, (.iadd, 1)), (91, (.putfield 162, 3)), (94, (.aload_n 0, 1)), (95, (.invokevirtual 74, 3)), (98, (.istore_n 3, 1)), (99, (.iload_n 3, 1)), (100, (.bipush 93, 2)), (102, (.if_icmp .ne 15, 3)), (105, (.aload_n 0, 1)), (106, (.dup, 1)), (107, (.getfield 60, 3)), (110, (.iconst 1, 1)), (111, (.iadd, 1)), (112, (.putfield 60, 3)), (115, (.iconst 1, 1)), (116, (.ireturn, 1)), (117, (.iload_n 3, 1)), (118, (.bipush 44, 2)), (120, (.if_icmp .eq 12, 3)), (123, (.aload_n 0, 1)), (124, (.aload_n 0, 1)), (125, (.getfield 60, 3)), (128, (.invokevirtual 78, 3)), (131, (.ireturn, 1))] = true := by decide +kernel
theorem dX2_readList_89 : decode cX2_readList 89 = .ok (.iconst 1, 1) := zdcg 0 zdT_dX2_readList_89 rfl
theorem dX2_readList_90 : decode cX2_readList 90 = .ok (.iadd, 1) := zdcg 1 zdT_dX2_readList_89 rfl
theorem dX2_readList_91 : decode cX2_readList 91 = .ok (.putfield 162, 3) := zdcg 2 zdT_dX2_readList_89 rfl
theorem dX2_readList_94 : decode cX2_readList 94 = .ok (.aload_n 0, 1) := zdcg 3 zdT_dX2_readList_89 rfl
theorem dX2_readList_95 : decode cX2_readList 95 = .ok (.invokevirtual 74, 3) := zdcg 4 zdT_dX2_readList_89 rfl
theorem dX2_readList_98 : decode cX2_readList 98 = .ok (.istore_n 3, 1) := zdcg 5 zdT_dX2_readList_89 rfl
theorem dX2_readList_99 : decode cX2_readList 99 = .ok (.iload_n 3, 1) := zdcg 6 zdT_dX2_readList_89 rfl
theorem dX2_readList_100 : decode cX2_readList 100 = .ok (.bipush 93, 2) := zdcg 7 zdT_dX2_readList_89 rfl
theorem dX2_readList_102 : decode cX2_readList 102 = .ok (.if_icmp .ne 15, 3) := zdcg 8 zdT_dX2_readList_89 rfl
theorem dX2_readList_105 : decode cX2_readList 105 = .ok (.aload_n 0, 1) := zdcg 9 zdT_dX2_readList_89 rfl
theorem dX2_readList_106 : decode cX2_readList 106 = .ok (.dup, 1) := zdcg 10 zdT_dX2_readList_89 rfl
theorem dX2_readList_107 : decode cX2_readList 107 = .ok (.getfield 60, 3) := zdcg 11 zdT_dX2_readList_89 rfl
theorem dX2_readList_110 : decode cX2_readList 110 = .ok (.iconst 1, 1) := zdcg 12 zdT_dX2_readList_89 rfl
theorem dX2_readList_111 : decode cX2_readList 111 = .ok (.iadd, 1) := zdcg 13 zdT_dX2_readList_89 rfl
theorem dX2_readList_112 : decode cX2_readList 112 = .ok (.putfield 60, 3) := zdcg 14 zdT_dX2_readList_89 rfl
theorem dX2_readList_115 : decode cX2_readList 115 = .ok (.iconst 1, 1) := zdcg 15 zdT_dX2_readList_89 rfl
theorem dX2_readList_116 : decode cX2_readList 116 = .ok (.ireturn, 1) := zdcg 16 zdT_dX2_readList_89 rfl
theorem dX2_readList_117 : decode cX2_readList 117 = .ok (.iload_n 3, 1) := zdcg 17 zdT_dX2_readList_89 rfl
theorem dX2_readList_118 : decode cX2_readList 118 = .ok (.bipush 44, 2) := zdcg 18 zdT_dX2_readList_89 rfl
theorem dX2_readList_120 : decode cX2_readList 120 = .ok (.if_icmp .eq 12, 3) := zdcg 19 zdT_dX2_readList_89 rfl
theorem dX2_readList_123 : decode cX2_readList 123 = .ok (.aload_n 0, 1) := zdcg 20 zdT_dX2_readList_89 rfl
theorem dX2_readList_124 : decode cX2_readList 124 = .ok (.aload_n 0, 1) := zdcg 21 zdT_dX2_readList_89 rfl
theorem dX2_readList_125 : decode cX2_readList 125 = .ok (.getfield 60, 3) := zdcg 22 zdT_dX2_readList_89 rfl
theorem dX2_readList_128 : decode cX2_readList 128 = .ok (.invokevirtual 78, 3) := zdcg 23 zdT_dX2_readList_89 rfl
theorem dX2_readList_131 : decode cX2_readList 131 = .ok (.ireturn, 1) := zdcg 24 zdT_dX2_readList_89 rfl
theorem zdT_dX2_readList_132 : zdch cX2_readList [(132, (.iinc 1 1, 3)), (135, (.goto (-102), 3)), (138, (.aload_n 0, 1)), (139, (.aload_n 0, 1)), (140, (.getfield 60, 3)), (143, (.invokevirtual 78, 3)), (146, (.ireturn, 1))] = true := by decide +kernel
theorem dX2_readList_132 : decode cX2_readList 132 = .ok (.iinc 1 1, 3) := zdcg 0 zdT_dX2_readList_132 rfl
theorem dX2_readList_135 : decode cX2_readList 135 = .ok (.goto (-102), 3) := zdcg 1 zdT_dX2_readList_132 rfl
theorem dX2_readList_138 : decode cX2_readList 138 = .ok (.aload_n 0, 1) := zdcg 2 zdT_dX2_readList_132 rfl
theorem dX2_readList_139 : decode cX2_readList 139 = .ok (.aload_n 0, 1) := zdcg 3 zdT_dX2_readList_132 rfl
theorem dX2_readList_140 : decode cX2_readList 140 = .ok (.getfield 60, 3) := zdcg 4 zdT_dX2_readList_132 rfl
theorem dX2_readList_143 : decode cX2_readList 143 = .ok (.invokevirtual 78, 3) := zdcg 5 zdT_dX2_readList_132 rfl
theorem dX2_readList_146 : decode cX2_readList 146 = .ok (.ireturn, 1) := zdcg 6 zdT_dX2_readList_132 rfl
theorem zdT_dX2_takeCharacter_0 : zdch cX2_takeCharacter [(0, (.aload_n 0, 1)), (1, (.getfield 162, 3)), (4, (.aload_n 0, 1)), (5, (.getfield 39, 3)), (8, (.arraylength, 1)), (9, (.if_icmp .gt 21, 3)), (12, (.aload_n 0, 1)), (13, (.getfield 49, 3)), (16, (.aload_n 0, 1)), (17, (.getfield 39, 3)), (20, (.aload_n 0, 1)), (21, (.getfield 162, 3)), (24, (.invokevirtual 165, 3)), (27, (.goto 4, 3)), (30, (.iconst (-1), 1)), (31, (.istore_n 3, 1)), (32, (.iload_n 3, 1)), (33, (.iconst (-1), 1)), (34, (.if_icmp .ne 15, 3)), (37, (.aload_n 0, 1)), (38, (.iconst 2, 1)), (39, (.aload_n 0, 1)), (40, (.getfield 159, 3)), (43, (.iload_n 1, 1)), (44, (.iconst 0, 1))] = true := by decide +kernel
theorem dX2_takeCharacter_0 : decode cX2_takeCharacter 0 = .ok (.aload_n 0, 1) := zdcg 0 zdT_dX2_takeCharacter_0 rfl
theorem dX2_takeCharacter_1 : decode cX2_takeCharacter 1 = .ok (.getfield 162, 3) := zdcg 1 zdT_dX2_takeCharacter_0 rfl
theorem dX2_takeCharacter_4 : decode cX2_takeCharacter 4 = .ok (.aload_n 0, 1) := zdcg 2 zdT_dX2_takeCharacter_0 rfl
theorem dX2_takeCharacter_5 : decode cX2_takeCharacter 5 = .ok (.getfield 39, 3) := zdcg 3 zdT_dX2_takeCharacter_0 rfl
theorem dX2_takeCharacter_8 : decode cX2_takeCharacter 8 = .ok (.arraylength, 1) := zdcg 4 zdT_dX2_takeCharacter_0 rfl
theorem dX2_takeCharacter_9 : decode cX2_takeCharacter 9 = .ok (.if_icmp .gt 21, 3) := zdcg 5 zdT_dX2_takeCharacter_0 rfl
theorem dX2_takeCharacter_12 : decode cX2_takeCharacter 12 = .ok (.aload_n 0, 1) := zdcg 6 zdT_dX2_takeCharacter_0 rfl
theorem dX2_takeCharacter_13 : decode cX2_takeCharacter 13 = .ok (.getfield 49, 3) := zdcg 7 zdT_dX2_takeCharacter_0 rfl
theorem dX2_takeCharacter_16 : decode cX2_takeCharacter 16 = .ok (.aload_n 0, 1) := zdcg 8 zdT_dX2_takeCharacter_0 rfl
theorem dX2_takeCharacter_17 : decode cX2_takeCharacter 17 = .ok (.getfield 39, 3) := zdcg 9 zdT_dX2_takeCharacter_0 rfl
theorem dX2_takeCharacter_20 : decode cX2_takeCharacter 20 = .ok (.aload_n 0, 1) := zdcg 10 zdT_dX2_takeCharacter_0 rfl
theorem dX2_takeCharacter_21 : decode cX2_takeCharacter 21 = .ok (.getfield 162, 3) := zdcg 11 zdT_dX2_takeCharacter_0 rfl
theorem dX2_takeCharacter_24 : decode cX2_takeCharacter 24 = .ok (.invokevirtual 165, 3) := zdcg 12 zdT_dX2_takeCharacter_0 rfl
theorem dX2_takeCharacter_27 : decode cX2_takeCharacter 27 = .ok (.goto 4, 3) := zdcg 13 zdT_dX2_takeCharacter_0 rfl
theorem dX2_takeCharacter_30 : decode cX2_takeCharacter 30 = .ok (.iconst (-1), 1) := zdcg 14 zdT_dX2_takeCharacter_0 rfl
theorem dX2_takeCharacter_31 : decode cX2_takeCharacter 31 = .ok (.istore_n 3, 1) := zdcg 15 zdT_dX2_takeCharacter_0 rfl
theorem dX2_takeCharacter_32 : decode cX2_takeCharacter 32 = .ok (.iload_n 3, 1) := zdcg 16 zdT_dX2_takeCharacter_0 rfl
theorem dX2_takeCharacter_33 : decode cX2_takeCharacter 33 = .ok (.iconst (-1), 1) := zdcg 17 zdT_dX2_takeCharacter_0 rfl
theorem dX2_takeCharacter_34 : decode cX2_takeCharacter 34 = .ok (.if_icmp .ne 15, 3) := zdcg 18 zdT_dX2_takeCharacter_0 rfl
theorem dX2_takeCharacter_37 : decode cX2_takeCharacter 37 = .ok (.aload_n 0, 1) := zdcg 19 zdT_dX2_takeCharacter_0 rfl
theorem dX2_takeCharacter_38 : decode cX2_takeCharacter 38 = .ok (.iconst 2, 1) := zdcg 20 zdT_dX2_takeCharacter_0 rfl
theorem dX2_takeCharacter_39 : decode cX2_takeCharacter 39 = .ok (.aload_n 0, 1) := zdcg 21 zdT_dX2_takeCharacter_0 rfl
theorem dX2_takeCharacter_40 : decode cX2_takeCharacter 40 = .ok (.getfield 159, 3) := zdcg 22 zdT_dX2_takeCharacter_0 rfl
theorem dX2_takeCharacter_43 : decode cX2_takeCharacter 43 = .ok (.iload_n 1, 1) := zdcg 23 zdT_dX2_takeCharacter_0 rfl
theorem dX2_takeCharacter_44 : decode cX2_takeCharacter 44 = .ok (.iconst 0, 1) := zdcg 24 zdT_dX2_takeCharacter_0 rfl
theorem zdT_dX2_takeCharacter_45 : zdch cX2_takeCharacter [(45, (.invokevirtual 115, 3)), (48, (.ireturn, 1)), (49, (.iload_n 2, 1)), (50, (.bipush 68, 2)), (52, (.if_icmp .eq 9, 3)), (55, (.iload_n 2, 1)), (56, (.bipush 80, 2)), (58, (.if_icmp .ne 28, 3)), (61, (.aload_n 0, 1)), (62, (.getfield 53, 3)), (65, (.iload_n 3, 1)), (66, (.invokevirtual 169, 3)), (69, (.ifCond .ne 17, 3)), (72, (.aload_n 0, 1)), (73, (.iconst 3, 1)), (74, (.aload_n 0, 1)), (75, (.getfield 36, 3)), (78, (.iload_n 1, 1)), (79, (.iaload, 1)), (80, (.iload_n 1, 1)), (81, (.iconst 0, 1)), (82, (.invokevirtual 115, 3)), (85, (.ireturn, 1)), (86, (.aload_n 0, 1)), (87, (.aload_n 0, 1))] = true := by decide +kernel
theorem dX2_takeCharacter_45 : decode cX2_takeCharacter 45 = .ok (.invokevirtual 115, 3) := zdcg 0 zdT_dX2_takeCharacter_45 rfl
theorem dX2_takeCharacter_48 : decode cX2_takeCharacter 48 = .ok (.ireturn, 1) := zdcg 1 zdT_dX2_takeCharacter_45 rfl
theorem dX2_takeCharacter_49 : decode cX2_takeCharacter 49 = .ok (.iload_n 2, 1) := zdcg 2 zdT_dX2_takeCharacter_45 rfl
theorem dX2_takeCharacter_50 : decode cX2_takeCharacter 50 = .ok (.bipush 68, 2) := zdcg 3 zdT_dX2_takeCharacter_45 rfl
theorem dX2_takeCharacter_52 : decode cX2_takeCharacter 52 = .ok (.if_icmp .eq 9, 3) := zdcg 4 zdT_dX2_takeCharacter_45 rfl
theorem dX2_takeCharacter_55 : decode cX2_takeCharacter 55 = .ok (.iload_n 2, 1) := zdcg 5 zdT_dX2_takeCharacter_45 rfl
theorem dX2_takeCharacter_56 : decode cX2_takeCharacter 56 = .ok (.bipush 80, 2) := zdcg 6 zdT_dX2_takeCharacter_45 rfl
theorem dX2_takeCharacter_58 : decode cX2_takeCharacter 58 = .ok (.if_icmp .ne 28, 3) := zdcg 7 zdT_dX2_takeCharacter_45 rfl
theorem dX2_takeCharacter_61 : decode cX2_takeCharacter 61 = .ok (.aload_n 0, 1) := zdcg 8 zdT_dX2_takeCharacter_45 rfl
theorem dX2_takeCharacter_62 : decode cX2_takeCharacter 62 = .ok (.getfield 53, 3) := zdcg 9 zdT_dX2_takeCharacter_45 rfl
theorem dX2_takeCharacter_65 : decode cX2_takeCharacter 65 = .ok (.iload_n 3, 1) := zdcg 10 zdT_dX2_takeCharacter_45 rfl
theorem dX2_takeCharacter_66 : decode cX2_takeCharacter 66 = .ok (.invokevirtual 169, 3) := zdcg 11 zdT_dX2_takeCharacter_45 rfl
theorem dX2_takeCharacter_69 : decode cX2_takeCharacter 69 = .ok (.ifCond .ne 17, 3) := zdcg 12 zdT_dX2_takeCharacter_45 rfl
theorem dX2_takeCharacter_72 : decode cX2_takeCharacter 72 = .ok (.aload_n 0, 1) := zdcg 13 zdT_dX2_takeCharacter_45 rfl
theorem dX2_takeCharacter_73 : decode cX2_takeCharacter 73 = .ok (.iconst 3, 1) := zdcg 14 zdT_dX2_takeCharacter_45 rfl
theorem dX2_takeCharacter_74 : decode cX2_takeCharacter 74 = .ok (.aload_n 0, 1) := zdcg 15 zdT_dX2_takeCharacter_45 rfl
theorem dX2_takeCharacter_75 : decode cX2_takeCharacter 75 = .ok (.getfield 36, 3) := zdcg 16 zdT_dX2_takeCharacter_45 rfl
theorem dX2_takeCharacter_78 : decode cX2_takeCharacter 78 = .ok (.iload_n 1, 1) := zdcg 17 zdT_dX2_takeCharacter_45 rfl
theorem dX2_takeCharacter_79 : decode cX2_takeCharacter 79 = .ok (.iaload, 1) := zdcg 18 zdT_dX2_takeCharacter_45 rfl
theorem dX2_takeCharacter_80 : decode cX2_takeCharacter 80 = .ok (.iload_n 1, 1) := zdcg 19 zdT_dX2_takeCharacter_45 rfl
theorem dX2_takeCharacter_81 : decode cX2_takeCharacter 81 = .ok (.iconst 0, 1) := zdcg 20 zdT_dX2_takeCharacter_45 rfl
theorem dX2_takeCharacter_82 : decode cX2_takeCharacter 82 = .ok (.invokevirtual 115, 3) := zdcg 21 zdT_dX2_takeCharacter_45 rfl
theorem dX2_takeCharacter_85 : decode cX2_takeCharacter 85 = .ok (.ireturn, 1) := zdcg 22 zdT_dX2_takeCharacter_45 rfl
theorem dX2_takeCharacter_86 : decode cX2_takeCharacter 86 = .ok (.aload_n 0, 1) := zdcg 23 zdT_dX2_takeCharacter_45 rfl
theorem dX2_takeCharacter_87 : decode cX2_takeCharacter 87 = .ok (.aload_n 0, 1) := zdcg 24 zdT_dX2_takeCharacter_45 rfl
theorem zdT_dX2_takeCharacter_88 : zdch cX2_takeCharacter [(88, (.iload_n 2, 1)), (89, (.iload_n 3, 1)), (90, (.invokevirtual 174, 3)), (93, (.aload_n 0, 1)), (94, (.getfield 26, 3)), (97, (.iload_n 1, 1)), (98, (.aaload, 1)), (99, (.invokevirtual 143, 3)), (102, (.iconst 1, 1)), (103, (.ireturn, 1))] = true := by decide +kernel
theorem dX2_takeCharacter_88 : decode cX2_takeCharacter 88 = .ok (.iload_n 2, 1) := zdcg 0 zdT_dX2_takeCharacter_88 rfl
theorem dX2_takeCharacter_89 : decode cX2_takeCharacter 89 = .ok (.iload_n 3, 1) := zdcg 1 zdT_dX2_takeCharacter_88 rfl
theorem dX2_takeCharacter_90 : decode cX2_takeCharacter 90 = .ok (.invokevirtual 174, 3) := zdcg 2 zdT_dX2_takeCharacter_88 rfl
theorem dX2_takeCharacter_93 : decode cX2_takeCharacter 93 = .ok (.aload_n 0, 1) := zdcg 3 zdT_dX2_takeCharacter_88 rfl
theorem dX2_takeCharacter_94 : decode cX2_takeCharacter 94 = .ok (.getfield 26, 3) := zdcg 4 zdT_dX2_takeCharacter_88 rfl
theorem dX2_takeCharacter_97 : decode cX2_takeCharacter 97 = .ok (.iload_n 1, 1) := zdcg 5 zdT_dX2_takeCharacter_88 rfl
theorem dX2_takeCharacter_98 : decode cX2_takeCharacter 98 = .ok (.aaload, 1) := zdcg 6 zdT_dX2_takeCharacter_88 rfl
theorem dX2_takeCharacter_99 : decode cX2_takeCharacter 99 = .ok (.invokevirtual 143, 3) := zdcg 7 zdT_dX2_takeCharacter_88 rfl
theorem dX2_takeCharacter_102 : decode cX2_takeCharacter 102 = .ok (.iconst 1, 1) := zdcg 8 zdT_dX2_takeCharacter_88 rfl
theorem dX2_takeCharacter_103 : decode cX2_takeCharacter 103 = .ok (.ireturn, 1) := zdcg 9 zdT_dX2_takeCharacter_88 rfl
theorem zdT_dX2_rowFor_0 : zdch cX2_rowFor [(0, (.iload_n 1, 1)), (1, (.lookupswitch 65 #[(68, 35), (77, 55), (80, 45)], 35)), (36, (.aload_n 0, 1)), (37, (.getfield 53, 3)), (40, (.getfield 178, 3)), (43, (.iload_n 2, 1)), (44, (.aaload, 1)), (45, (.areturn, 1)), (46, (.aload_n 0, 1)), (47, (.getfield 53, 3)), (50, (.getfield 182, 3)), (53, (.iload_n 2, 1)), (54, (.aaload, 1)), (55, (.areturn, 1)), (56, (.aload_n 0, 1)), (57, (.getfield 49, 3)), (60, (.getfield 185, 3)), (63, (.iload_n 2, 1)), (64, (.aaload, 1)), (65, (.areturn, 1)), (66, (.aload_n 0, 1)), (67, (.getfield 49, 3)), (70, (.getfield 188, 3)), (73, (.iload_n 2, 1)), (74, (.aaload, 1))] = true := by decide +kernel
theorem dX2_rowFor_0 : decode cX2_rowFor 0 = .ok (.iload_n 1, 1) := zdcg 0 zdT_dX2_rowFor_0 rfl
theorem dX2_rowFor_1 : decode cX2_rowFor 1 = .ok (.lookupswitch 65 #[(68, 35), (77, 55), (80, 45)], 35) := zdcg 1 zdT_dX2_rowFor_0 rfl
theorem dX2_rowFor_36 : decode cX2_rowFor 36 = .ok (.aload_n 0, 1) := zdcg 2 zdT_dX2_rowFor_0 rfl
theorem dX2_rowFor_37 : decode cX2_rowFor 37 = .ok (.getfield 53, 3) := zdcg 3 zdT_dX2_rowFor_0 rfl
theorem dX2_rowFor_40 : decode cX2_rowFor 40 = .ok (.getfield 178, 3) := zdcg 4 zdT_dX2_rowFor_0 rfl
theorem dX2_rowFor_43 : decode cX2_rowFor 43 = .ok (.iload_n 2, 1) := zdcg 5 zdT_dX2_rowFor_0 rfl
theorem dX2_rowFor_44 : decode cX2_rowFor 44 = .ok (.aaload, 1) := zdcg 6 zdT_dX2_rowFor_0 rfl
theorem dX2_rowFor_45 : decode cX2_rowFor 45 = .ok (.areturn, 1) := zdcg 7 zdT_dX2_rowFor_0 rfl
theorem dX2_rowFor_46 : decode cX2_rowFor 46 = .ok (.aload_n 0, 1) := zdcg 8 zdT_dX2_rowFor_0 rfl
theorem dX2_rowFor_47 : decode cX2_rowFor 47 = .ok (.getfield 53, 3) := zdcg 9 zdT_dX2_rowFor_0 rfl
theorem dX2_rowFor_50 : decode cX2_rowFor 50 = .ok (.getfield 182, 3) := zdcg 10 zdT_dX2_rowFor_0 rfl
theorem dX2_rowFor_53 : decode cX2_rowFor 53 = .ok (.iload_n 2, 1) := zdcg 11 zdT_dX2_rowFor_0 rfl
theorem dX2_rowFor_54 : decode cX2_rowFor 54 = .ok (.aaload, 1) := zdcg 12 zdT_dX2_rowFor_0 rfl
theorem dX2_rowFor_55 : decode cX2_rowFor 55 = .ok (.areturn, 1) := zdcg 13 zdT_dX2_rowFor_0 rfl
theorem dX2_rowFor_56 : decode cX2_rowFor 56 = .ok (.aload_n 0, 1) := zdcg 14 zdT_dX2_rowFor_0 rfl
theorem dX2_rowFor_57 : decode cX2_rowFor 57 = .ok (.getfield 49, 3) := zdcg 15 zdT_dX2_rowFor_0 rfl
theorem dX2_rowFor_60 : decode cX2_rowFor 60 = .ok (.getfield 185, 3) := zdcg 16 zdT_dX2_rowFor_0 rfl
theorem dX2_rowFor_63 : decode cX2_rowFor 63 = .ok (.iload_n 2, 1) := zdcg 17 zdT_dX2_rowFor_0 rfl
theorem dX2_rowFor_64 : decode cX2_rowFor 64 = .ok (.aaload, 1) := zdcg 18 zdT_dX2_rowFor_0 rfl
theorem dX2_rowFor_65 : decode cX2_rowFor 65 = .ok (.areturn, 1) := zdcg 19 zdT_dX2_rowFor_0 rfl
theorem dX2_rowFor_66 : decode cX2_rowFor 66 = .ok (.aload_n 0, 1) := zdcg 20 zdT_dX2_rowFor_0 rfl
theorem dX2_rowFor_67 : decode cX2_rowFor 67 = .ok (.getfield 49, 3) := zdcg 21 zdT_dX2_rowFor_0 rfl
theorem dX2_rowFor_70 : decode cX2_rowFor 70 = .ok (.getfield 188, 3) := zdcg 22 zdT_dX2_rowFor_0 rfl
theorem dX2_rowFor_73 : decode cX2_rowFor 73 = .ok (.iload_n 2, 1) := zdcg 23 zdT_dX2_rowFor_0 rfl
theorem dX2_rowFor_74 : decode cX2_rowFor 74 = .ok (.aaload, 1) := zdcg 24 zdT_dX2_rowFor_0 rfl
theorem zdT_dX2_rowFor_75 : zdch cX2_rowFor [(75, (.areturn, 1))] = true := by decide +kernel
theorem dX2_rowFor_75 : decode cX2_rowFor 75 = .ok (.areturn, 1) := zdcg 0 zdT_dX2_rowFor_75 rfl
theorem zdT_dX2_readNumber_0 : zdch cX2_readNumber [(0, (.aload_n 0, 1)), (1, (.invokevirtual 74, 3)), (4, (.istore_n 1, 1)), (5, (.aload_n 0, 1)), (6, (.getfield 60, 3)), (9, (.istore_n 2, 1)), (10, (.iconst 0, 1)), (11, (.istore_n 3, 1)), (12, (.aload_n 0, 1)), (13, (.getfield 60, 3)), (16, (.aload_n 0, 1)), (17, (.getfield 42, 3)), (20, (.getfield 81, 3)), (23, (.if_icmp .ge 64, 3)), (26, (.iload_n 1, 1)), (27, (.invokestatic 126, 3)), (30, (.ifCond .eq 57, 3)), (33, (.iload_n 3, 1)), (34, (.bipush 10, 2)), (36, (.imul, 1)), (37, (.iload_n 1, 1)), (38, (.iadd, 1)), (39, (.bipush 48, 2)), (41, (.isub, 1)), (42, (.istore_n 3, 1))] = true := by decide +kernel
theorem dX2_readNumber_0 : decode cX2_readNumber 0 = .ok (.aload_n 0, 1) := zdcg 0 zdT_dX2_readNumber_0 rfl
theorem dX2_readNumber_1 : decode cX2_readNumber 1 = .ok (.invokevirtual 74, 3) := zdcg 1 zdT_dX2_readNumber_0 rfl
theorem dX2_readNumber_4 : decode cX2_readNumber 4 = .ok (.istore_n 1, 1) := zdcg 2 zdT_dX2_readNumber_0 rfl
theorem dX2_readNumber_5 : decode cX2_readNumber 5 = .ok (.aload_n 0, 1) := zdcg 3 zdT_dX2_readNumber_0 rfl
theorem dX2_readNumber_6 : decode cX2_readNumber 6 = .ok (.getfield 60, 3) := zdcg 4 zdT_dX2_readNumber_0 rfl
theorem dX2_readNumber_9 : decode cX2_readNumber 9 = .ok (.istore_n 2, 1) := zdcg 5 zdT_dX2_readNumber_0 rfl
theorem dX2_readNumber_10 : decode cX2_readNumber 10 = .ok (.iconst 0, 1) := zdcg 6 zdT_dX2_readNumber_0 rfl
theorem dX2_readNumber_11 : decode cX2_readNumber 11 = .ok (.istore_n 3, 1) := zdcg 7 zdT_dX2_readNumber_0 rfl
theorem dX2_readNumber_12 : decode cX2_readNumber 12 = .ok (.aload_n 0, 1) := zdcg 8 zdT_dX2_readNumber_0 rfl
theorem dX2_readNumber_13 : decode cX2_readNumber 13 = .ok (.getfield 60, 3) := zdcg 9 zdT_dX2_readNumber_0 rfl
theorem dX2_readNumber_16 : decode cX2_readNumber 16 = .ok (.aload_n 0, 1) := zdcg 10 zdT_dX2_readNumber_0 rfl
theorem dX2_readNumber_17 : decode cX2_readNumber 17 = .ok (.getfield 42, 3) := zdcg 11 zdT_dX2_readNumber_0 rfl
theorem dX2_readNumber_20 : decode cX2_readNumber 20 = .ok (.getfield 81, 3) := zdcg 12 zdT_dX2_readNumber_0 rfl
theorem dX2_readNumber_23 : decode cX2_readNumber 23 = .ok (.if_icmp .ge 64, 3) := zdcg 13 zdT_dX2_readNumber_0 rfl
theorem dX2_readNumber_26 : decode cX2_readNumber 26 = .ok (.iload_n 1, 1) := zdcg 14 zdT_dX2_readNumber_0 rfl
theorem dX2_readNumber_27 : decode cX2_readNumber 27 = .ok (.invokestatic 126, 3) := zdcg 15 zdT_dX2_readNumber_0 rfl
theorem dX2_readNumber_30 : decode cX2_readNumber 30 = .ok (.ifCond .eq 57, 3) := zdcg 16 zdT_dX2_readNumber_0 rfl
theorem dX2_readNumber_33 : decode cX2_readNumber 33 = .ok (.iload_n 3, 1) := zdcg 17 zdT_dX2_readNumber_0 rfl
theorem dX2_readNumber_34 : decode cX2_readNumber 34 = .ok (.bipush 10, 2) := zdcg 18 zdT_dX2_readNumber_0 rfl
theorem dX2_readNumber_36 : decode cX2_readNumber 36 = .ok (.imul, 1) := zdcg 19 zdT_dX2_readNumber_0 rfl
theorem dX2_readNumber_37 : decode cX2_readNumber 37 = .ok (.iload_n 1, 1) := zdcg 20 zdT_dX2_readNumber_0 rfl
theorem dX2_readNumber_38 : decode cX2_readNumber 38 = .ok (.iadd, 1) := zdcg 21 zdT_dX2_readNumber_0 rfl
theorem dX2_readNumber_39 : decode cX2_readNumber 39 = .ok (.bipush 48, 2) := zdcg 22 zdT_dX2_readNumber_0 rfl
theorem dX2_readNumber_41 : decode cX2_readNumber 41 = .ok (.isub, 1) := zdcg 23 zdT_dX2_readNumber_0 rfl
theorem dX2_readNumber_42 : decode cX2_readNumber 42 = .ok (.istore_n 3, 1) := zdcg 24 zdT_dX2_readNumber_0 rfl
theorem zdT_dX2_readNumber_43 : zdch cX2_readNumber [(43, (.aload_n 0, 1)), (44, (.dup, 1)), (45, (.getfield 60, 3)), (48, (.iconst 1, 1)), (49, (.iadd, 1)), (50, (.putfield 60, 3)), (53, (.aload_n 0, 1)), (54, (.getfield 60, 3)), (57, (.aload_n 0, 1)), (58, (.getfield 42, 3)), (61, (.getfield 81, 3)), (64, (.if_icmp .ge 18, 3)), (67, (.aload_n 0, 1)), (68, (.getfield 42, 3)), (71, (.getfield 86, 3)), (74, (.aload_n 0, 1)), (75, (.getfield 60, 3)), (78, (.iaload, 1)), (79, (.goto 4, 3)), (82, (.iconst (-1), 1)), (83, (.istore_n 1, 1)), (84, (.goto (-72), 3)), (87, (.aload_n 0, 1)), (88, (.getfield 60, 3)), (91, (.iload_n 2, 1))] = true := by decide +kernel
theorem dX2_readNumber_43 : decode cX2_readNumber 43 = .ok (.aload_n 0, 1) := zdcg 0 zdT_dX2_readNumber_43 rfl
theorem dX2_readNumber_44 : decode cX2_readNumber 44 = .ok (.dup, 1) := zdcg 1 zdT_dX2_readNumber_43 rfl
theorem dX2_readNumber_45 : decode cX2_readNumber 45 = .ok (.getfield 60, 3) := zdcg 2 zdT_dX2_readNumber_43 rfl
theorem dX2_readNumber_48 : decode cX2_readNumber 48 = .ok (.iconst 1, 1) := zdcg 3 zdT_dX2_readNumber_43 rfl
theorem dX2_readNumber_49 : decode cX2_readNumber 49 = .ok (.iadd, 1) := zdcg 4 zdT_dX2_readNumber_43 rfl
theorem dX2_readNumber_50 : decode cX2_readNumber 50 = .ok (.putfield 60, 3) := zdcg 5 zdT_dX2_readNumber_43 rfl
theorem dX2_readNumber_53 : decode cX2_readNumber 53 = .ok (.aload_n 0, 1) := zdcg 6 zdT_dX2_readNumber_43 rfl
theorem dX2_readNumber_54 : decode cX2_readNumber 54 = .ok (.getfield 60, 3) := zdcg 7 zdT_dX2_readNumber_43 rfl
theorem dX2_readNumber_57 : decode cX2_readNumber 57 = .ok (.aload_n 0, 1) := zdcg 8 zdT_dX2_readNumber_43 rfl
theorem dX2_readNumber_58 : decode cX2_readNumber 58 = .ok (.getfield 42, 3) := zdcg 9 zdT_dX2_readNumber_43 rfl
theorem dX2_readNumber_61 : decode cX2_readNumber 61 = .ok (.getfield 81, 3) := zdcg 10 zdT_dX2_readNumber_43 rfl
theorem dX2_readNumber_64 : decode cX2_readNumber 64 = .ok (.if_icmp .ge 18, 3) := zdcg 11 zdT_dX2_readNumber_43 rfl
theorem dX2_readNumber_67 : decode cX2_readNumber 67 = .ok (.aload_n 0, 1) := zdcg 12 zdT_dX2_readNumber_43 rfl
theorem dX2_readNumber_68 : decode cX2_readNumber 68 = .ok (.getfield 42, 3) := zdcg 13 zdT_dX2_readNumber_43 rfl
theorem dX2_readNumber_71 : decode cX2_readNumber 71 = .ok (.getfield 86, 3) := zdcg 14 zdT_dX2_readNumber_43 rfl
theorem dX2_readNumber_74 : decode cX2_readNumber 74 = .ok (.aload_n 0, 1) := zdcg 15 zdT_dX2_readNumber_43 rfl
theorem dX2_readNumber_75 : decode cX2_readNumber 75 = .ok (.getfield 60, 3) := zdcg 16 zdT_dX2_readNumber_43 rfl
theorem dX2_readNumber_78 : decode cX2_readNumber 78 = .ok (.iaload, 1) := zdcg 17 zdT_dX2_readNumber_43 rfl
theorem dX2_readNumber_79 : decode cX2_readNumber 79 = .ok (.goto 4, 3) := zdcg 18 zdT_dX2_readNumber_43 rfl
theorem dX2_readNumber_82 : decode cX2_readNumber 82 = .ok (.iconst (-1), 1) := zdcg 19 zdT_dX2_readNumber_43 rfl
theorem dX2_readNumber_83 : decode cX2_readNumber 83 = .ok (.istore_n 1, 1) := zdcg 20 zdT_dX2_readNumber_43 rfl
theorem dX2_readNumber_84 : decode cX2_readNumber 84 = .ok (.goto (-72), 3) := zdcg 21 zdT_dX2_readNumber_43 rfl
theorem dX2_readNumber_87 : decode cX2_readNumber 87 = .ok (.aload_n 0, 1) := zdcg 22 zdT_dX2_readNumber_43 rfl
theorem dX2_readNumber_88 : decode cX2_readNumber 88 = .ok (.getfield 60, 3) := zdcg 23 zdT_dX2_readNumber_43 rfl
theorem dX2_readNumber_91 : decode cX2_readNumber 91 = .ok (.iload_n 2, 1) := zdcg 24 zdT_dX2_readNumber_43 rfl
theorem zdT_dX2_readNumber_92 : zdch cX2_readNumber [(92, (.if_icmp .eq 13, 3)), (95, (.aload_n 0, 1)), (96, (.getfield 60, 3)), (99, (.iload_n 2, 1)), (100, (.isub, 1)), (101, (.iconst 4, 1)), (102, (.if_icmp .le 14, 3)), (105, (.aload_n 0, 1)), (106, (.getfield 12, 3)), (109, (.iconst 1, 1)), (110, (.iload_n 2, 1)), (111, (.invokevirtual 89, 3)), (114, (.iconst (-1), 1)), (115, (.ireturn, 1)), (116, (.iload_n 3, 1)), (117, (.ireturn, 1))] = true := by decide +kernel
theorem dX2_readNumber_92 : decode cX2_readNumber 92 = .ok (.if_icmp .eq 13, 3) := zdcg 0 zdT_dX2_readNumber_92 rfl
theorem dX2_readNumber_95 : decode cX2_readNumber 95 = .ok (.aload_n 0, 1) := zdcg 1 zdT_dX2_readNumber_92 rfl
theorem dX2_readNumber_96 : decode cX2_readNumber 96 = .ok (.getfield 60, 3) := zdcg 2 zdT_dX2_readNumber_92 rfl
theorem dX2_readNumber_99 : decode cX2_readNumber 99 = .ok (.iload_n 2, 1) := zdcg 3 zdT_dX2_readNumber_92 rfl
theorem dX2_readNumber_100 : decode cX2_readNumber 100 = .ok (.isub, 1) := zdcg 4 zdT_dX2_readNumber_92 rfl
theorem dX2_readNumber_101 : decode cX2_readNumber 101 = .ok (.iconst 4, 1) := zdcg 5 zdT_dX2_readNumber_92 rfl
theorem dX2_readNumber_102 : decode cX2_readNumber 102 = .ok (.if_icmp .le 14, 3) := zdcg 6 zdT_dX2_readNumber_92 rfl
theorem dX2_readNumber_105 : decode cX2_readNumber 105 = .ok (.aload_n 0, 1) := zdcg 7 zdT_dX2_readNumber_92 rfl
theorem dX2_readNumber_106 : decode cX2_readNumber 106 = .ok (.getfield 12, 3) := zdcg 8 zdT_dX2_readNumber_92 rfl
theorem dX2_readNumber_109 : decode cX2_readNumber 109 = .ok (.iconst 1, 1) := zdcg 9 zdT_dX2_readNumber_92 rfl
theorem dX2_readNumber_110 : decode cX2_readNumber 110 = .ok (.iload_n 2, 1) := zdcg 10 zdT_dX2_readNumber_92 rfl
theorem dX2_readNumber_111 : decode cX2_readNumber 111 = .ok (.invokevirtual 89, 3) := zdcg 11 zdT_dX2_readNumber_92 rfl
theorem dX2_readNumber_114 : decode cX2_readNumber 114 = .ok (.iconst (-1), 1) := zdcg 12 zdT_dX2_readNumber_92 rfl
theorem dX2_readNumber_115 : decode cX2_readNumber 115 = .ok (.ireturn, 1) := zdcg 13 zdT_dX2_readNumber_92 rfl
theorem dX2_readNumber_116 : decode cX2_readNumber 116 = .ok (.iload_n 3, 1) := zdcg 14 zdT_dX2_readNumber_92 rfl
theorem dX2_readNumber_117 : decode cX2_readNumber 117 = .ok (.ireturn, 1) := zdcg 15 zdT_dX2_readNumber_92 rfl
theorem zdT_dX2_isDigit_0 : zdch cX2_isDigit [(0, (.iload_n 0, 1)), (1, (.bipush 48, 2)), (3, (.if_icmp .lt 13, 3)), (6, (.iload_n 0, 1)), (7, (.bipush 57, 2)), (9, (.if_icmp .gt 7, 3)), (12, (.iconst 1, 1)), (13, (.goto 4, 3)), (16, (.iconst 0, 1)), (17, (.ireturn, 1))] = true := by decide +kernel
theorem dX2_isDigit_0 : decode cX2_isDigit 0 = .ok (.iload_n 0, 1) := zdcg 0 zdT_dX2_isDigit_0 rfl
theorem dX2_isDigit_1 : decode cX2_isDigit 1 = .ok (.bipush 48, 2) := zdcg 1 zdT_dX2_isDigit_0 rfl
theorem dX2_isDigit_3 : decode cX2_isDigit 3 = .ok (.if_icmp .lt 13, 3) := zdcg 2 zdT_dX2_isDigit_0 rfl
theorem dX2_isDigit_6 : decode cX2_isDigit 6 = .ok (.iload_n 0, 1) := zdcg 3 zdT_dX2_isDigit_0 rfl
theorem dX2_isDigit_7 : decode cX2_isDigit 7 = .ok (.bipush 57, 2) := zdcg 4 zdT_dX2_isDigit_0 rfl
theorem dX2_isDigit_9 : decode cX2_isDigit 9 = .ok (.if_icmp .gt 7, 3) := zdcg 5 zdT_dX2_isDigit_0 rfl
theorem dX2_isDigit_12 : decode cX2_isDigit 12 = .ok (.iconst 1, 1) := zdcg 6 zdT_dX2_isDigit_0 rfl
theorem dX2_isDigit_13 : decode cX2_isDigit 13 = .ok (.goto 4, 3) := zdcg 7 zdT_dX2_isDigit_0 rfl
theorem dX2_isDigit_16 : decode cX2_isDigit 16 = .ok (.iconst 0, 1) := zdcg 8 zdT_dX2_isDigit_0 rfl
theorem dX2_isDigit_17 : decode cX2_isDigit 17 = .ok (.ireturn, 1) := zdcg 9 zdT_dX2_isDigit_0 rfl
theorem zdT_dX2_copy_0 : zdch cX2_copy [(0, (.iconst 0, 1)), (1, (.istore_n 3, 1)), (2, (.iload_n 3, 1)), (3, (.aload_n 0, 1)), (4, (.getfield 49, 3)), (7, (.getfield 100, 3)), (10, (.if_icmp .ge 16, 3)), (13, (.aload_n 2, 1)), (14, (.iload_n 3, 1)), (15, (.aload_n 1, 1)), (16, (.iload_n 3, 1)), (17, (.iaload, 1)), (18, (.i2l, 1)), (19, (.lastore, 1)), (20, (.iinc 3 1, 3)), (23, (.goto (-21), 3)), (26, (.return_, 1))] = true := by decide +kernel
theorem dX2_copy_0 : decode cX2_copy 0 = .ok (.iconst 0, 1) := zdcg 0 zdT_dX2_copy_0 rfl
theorem dX2_copy_1 : decode cX2_copy 1 = .ok (.istore_n 3, 1) := zdcg 1 zdT_dX2_copy_0 rfl
theorem dX2_copy_2 : decode cX2_copy 2 = .ok (.iload_n 3, 1) := zdcg 2 zdT_dX2_copy_0 rfl
theorem dX2_copy_3 : decode cX2_copy 3 = .ok (.aload_n 0, 1) := zdcg 3 zdT_dX2_copy_0 rfl
theorem dX2_copy_4 : decode cX2_copy 4 = .ok (.getfield 49, 3) := zdcg 4 zdT_dX2_copy_0 rfl
theorem dX2_copy_7 : decode cX2_copy 7 = .ok (.getfield 100, 3) := zdcg 5 zdT_dX2_copy_0 rfl
theorem dX2_copy_10 : decode cX2_copy 10 = .ok (.if_icmp .ge 16, 3) := zdcg 6 zdT_dX2_copy_0 rfl
theorem dX2_copy_13 : decode cX2_copy 13 = .ok (.aload_n 2, 1) := zdcg 7 zdT_dX2_copy_0 rfl
theorem dX2_copy_14 : decode cX2_copy 14 = .ok (.iload_n 3, 1) := zdcg 8 zdT_dX2_copy_0 rfl
theorem dX2_copy_15 : decode cX2_copy 15 = .ok (.aload_n 1, 1) := zdcg 9 zdT_dX2_copy_0 rfl
theorem dX2_copy_16 : decode cX2_copy 16 = .ok (.iload_n 3, 1) := zdcg 10 zdT_dX2_copy_0 rfl
theorem dX2_copy_17 : decode cX2_copy 17 = .ok (.iaload, 1) := zdcg 11 zdT_dX2_copy_0 rfl
theorem dX2_copy_18 : decode cX2_copy 18 = .ok (.i2l, 1) := zdcg 12 zdT_dX2_copy_0 rfl
theorem dX2_copy_19 : decode cX2_copy 19 = .ok (.lastore, 1) := zdcg 13 zdT_dX2_copy_0 rfl
theorem dX2_copy_20 : decode cX2_copy 20 = .ok (.iinc 3 1, 3) := zdcg 14 zdT_dX2_copy_0 rfl
theorem dX2_copy_23 : decode cX2_copy 23 = .ok (.goto (-21), 3) := zdcg 15 zdT_dX2_copy_0 rfl
theorem dX2_copy_26 : decode cX2_copy 26 = .ok (.return_, 1) := zdcg 16 zdT_dX2_copy_0 rfl
theorem zdT_dX2_add_0 : zdch cX2_add [(0, (.iconst 0, 1)), (1, (.istore 4, 2)), (3, (.iload 4, 2)), (5, (.aload_n 0, 1)), (6, (.getfield 49, 3)), (9, (.getfield 100, 3)), (12, (.if_icmp .ge 62, 3)), (15, (.iload_n 2, 1)), (16, (.ifCond .eq 15, 3)), (19, (.aload_n 3, 1)), (20, (.iload 4, 2)), (22, (.laload, 1)), (23, (.aload_n 1, 1)), (24, (.iload 4, 2)), (26, (.laload, 1)), (27, (.lsub, 1)), (28, (.goto 12, 3)), (31, (.aload_n 3, 1)), (32, (.iload 4, 2)), (34, (.laload, 1)), (35, (.aload_n 1, 1)), (36, (.iload 4, 2)), (38, (.laload, 1)), (39, (.ladd, 1)), (40, (.lstore 5, 2))] = true := by decide +kernel
theorem dX2_add_0 : decode cX2_add 0 = .ok (.iconst 0, 1) := zdcg 0 zdT_dX2_add_0 rfl
theorem dX2_add_1 : decode cX2_add 1 = .ok (.istore 4, 2) := zdcg 1 zdT_dX2_add_0 rfl
theorem dX2_add_3 : decode cX2_add 3 = .ok (.iload 4, 2) := zdcg 2 zdT_dX2_add_0 rfl
theorem dX2_add_5 : decode cX2_add 5 = .ok (.aload_n 0, 1) := zdcg 3 zdT_dX2_add_0 rfl
theorem dX2_add_6 : decode cX2_add 6 = .ok (.getfield 49, 3) := zdcg 4 zdT_dX2_add_0 rfl
theorem dX2_add_9 : decode cX2_add 9 = .ok (.getfield 100, 3) := zdcg 5 zdT_dX2_add_0 rfl
theorem dX2_add_12 : decode cX2_add 12 = .ok (.if_icmp .ge 62, 3) := zdcg 6 zdT_dX2_add_0 rfl
theorem dX2_add_15 : decode cX2_add 15 = .ok (.iload_n 2, 1) := zdcg 7 zdT_dX2_add_0 rfl
theorem dX2_add_16 : decode cX2_add 16 = .ok (.ifCond .eq 15, 3) := zdcg 8 zdT_dX2_add_0 rfl
theorem dX2_add_19 : decode cX2_add 19 = .ok (.aload_n 3, 1) := zdcg 9 zdT_dX2_add_0 rfl
theorem dX2_add_20 : decode cX2_add 20 = .ok (.iload 4, 2) := zdcg 10 zdT_dX2_add_0 rfl
theorem dX2_add_22 : decode cX2_add 22 = .ok (.laload, 1) := zdcg 11 zdT_dX2_add_0 rfl
theorem dX2_add_23 : decode cX2_add 23 = .ok (.aload_n 1, 1) := zdcg 12 zdT_dX2_add_0 rfl
theorem dX2_add_24 : decode cX2_add 24 = .ok (.iload 4, 2) := zdcg 13 zdT_dX2_add_0 rfl
theorem dX2_add_26 : decode cX2_add 26 = .ok (.laload, 1) := zdcg 14 zdT_dX2_add_0 rfl
theorem dX2_add_27 : decode cX2_add 27 = .ok (.lsub, 1) := zdcg 15 zdT_dX2_add_0 rfl
theorem dX2_add_28 : decode cX2_add 28 = .ok (.goto 12, 3) := zdcg 16 zdT_dX2_add_0 rfl
theorem dX2_add_31 : decode cX2_add 31 = .ok (.aload_n 3, 1) := zdcg 17 zdT_dX2_add_0 rfl
theorem dX2_add_32 : decode cX2_add 32 = .ok (.iload 4, 2) := zdcg 18 zdT_dX2_add_0 rfl
theorem dX2_add_34 : decode cX2_add 34 = .ok (.laload, 1) := zdcg 19 zdT_dX2_add_0 rfl
theorem dX2_add_35 : decode cX2_add 35 = .ok (.aload_n 1, 1) := zdcg 20 zdT_dX2_add_0 rfl
theorem dX2_add_36 : decode cX2_add 36 = .ok (.iload 4, 2) := zdcg 21 zdT_dX2_add_0 rfl
theorem dX2_add_38 : decode cX2_add 38 = .ok (.laload, 1) := zdcg 22 zdT_dX2_add_0 rfl
theorem dX2_add_39 : decode cX2_add 39 = .ok (.ladd, 1) := zdcg 23 zdT_dX2_add_0 rfl
theorem dX2_add_40 : decode cX2_add 40 = .ok (.lstore 5, 2) := zdcg 24 zdT_dX2_add_0 rfl
theorem zdT_dX2_add_42 : zdch cX2_add [(42, (.lload 5, 2)), (44, (.ldc2_w 191, 3)), (47, (.lcmp, 1)), (48, (.ifCond .gt 12, 3)), (51, (.lload 5, 2)), (53, (.ldc2_w 193, 3)), (56, (.lcmp, 1)), (57, (.ifCond .ge 5, 3)), (60, (.iconst 0, 1)), (61, (.ireturn, 1)), (62, (.aload_n 3, 1)), (63, (.iload 4, 2)), (65, (.lload 5, 2)), (67, (.lastore, 1)), (68, (.iinc 4 1, 3)), (71, (.goto (-68), 3)), (74, (.iconst 1, 1)), (75, (.ireturn, 1))] = true := by decide +kernel
theorem dX2_add_42 : decode cX2_add 42 = .ok (.lload 5, 2) := zdcg 0 zdT_dX2_add_42 rfl
theorem dX2_add_44 : decode cX2_add 44 = .ok (.ldc2_w 191, 3) := zdcg 1 zdT_dX2_add_42 rfl
theorem dX2_add_47 : decode cX2_add 47 = .ok (.lcmp, 1) := zdcg 2 zdT_dX2_add_42 rfl
theorem dX2_add_48 : decode cX2_add 48 = .ok (.ifCond .gt 12, 3) := zdcg 3 zdT_dX2_add_42 rfl
theorem dX2_add_51 : decode cX2_add 51 = .ok (.lload 5, 2) := zdcg 4 zdT_dX2_add_42 rfl
theorem dX2_add_53 : decode cX2_add 53 = .ok (.ldc2_w 193, 3) := zdcg 5 zdT_dX2_add_42 rfl
theorem dX2_add_56 : decode cX2_add 56 = .ok (.lcmp, 1) := zdcg 6 zdT_dX2_add_42 rfl
theorem dX2_add_57 : decode cX2_add 57 = .ok (.ifCond .ge 5, 3) := zdcg 7 zdT_dX2_add_42 rfl
theorem dX2_add_60 : decode cX2_add 60 = .ok (.iconst 0, 1) := zdcg 8 zdT_dX2_add_42 rfl
theorem dX2_add_61 : decode cX2_add 61 = .ok (.ireturn, 1) := zdcg 9 zdT_dX2_add_42 rfl
theorem dX2_add_62 : decode cX2_add 62 = .ok (.aload_n 3, 1) := zdcg 10 zdT_dX2_add_42 rfl
theorem dX2_add_63 : decode cX2_add 63 = .ok (.iload 4, 2) := zdcg 11 zdT_dX2_add_42 rfl
theorem dX2_add_65 : decode cX2_add 65 = .ok (.lload 5, 2) := zdcg 12 zdT_dX2_add_42 rfl
theorem dX2_add_67 : decode cX2_add 67 = .ok (.lastore, 1) := zdcg 13 zdT_dX2_add_42 rfl
theorem dX2_add_68 : decode cX2_add 68 = .ok (.iinc 4 1, 3) := zdcg 14 zdT_dX2_add_42 rfl
theorem dX2_add_71 : decode cX2_add 71 = .ok (.goto (-68), 3) := zdcg 15 zdT_dX2_add_42 rfl
theorem dX2_add_74 : decode cX2_add 74 = .ok (.iconst 1, 1) := zdcg 16 zdT_dX2_add_42 rfl
theorem dX2_add_75 : decode cX2_add 75 = .ok (.ireturn, 1) := zdcg 17 zdT_dX2_add_42 rfl
theorem zdT_dX2_multiply_0 : zdch cX2_multiply [(0, (.iconst 0, 1)), (1, (.istore_n 3, 1)), (2, (.iload_n 3, 1)), (3, (.aload_n 0, 1)), (4, (.getfield 49, 3)), (7, (.getfield 100, 3)), (10, (.if_icmp .ge 48, 3)), (13, (.aload_n 1, 1)), (14, (.iload_n 3, 1)), (15, (.laload, 1)), (16, (.lconst 0, 1)), (17, (.lcmp, 1)), (18, (.ifCond .eq 25, 3)), (21, (.aload_n 2, 1)), (22, (.iload_n 3, 1)), (23, (.laload, 1)), (24, (.invokestatic 195, 3)), (27, (.ldc2_w 191, 3)), (30, (.aload_n 1, 1)), (31, (.iload_n 3, 1)), (32, (.laload, 1)), (33, (.invokestatic 195, 3)), (36, (.ldiv, 1)), (37, (.lcmp, 1)), (38, (.ifCond .le 5, 3))] = true := by decide +kernel
theorem dX2_multiply_0 : decode cX2_multiply 0 = .ok (.iconst 0, 1) := zdcg 0 zdT_dX2_multiply_0 rfl
theorem dX2_multiply_1 : decode cX2_multiply 1 = .ok (.istore_n 3, 1) := zdcg 1 zdT_dX2_multiply_0 rfl
theorem dX2_multiply_2 : decode cX2_multiply 2 = .ok (.iload_n 3, 1) := zdcg 2 zdT_dX2_multiply_0 rfl
theorem dX2_multiply_3 : decode cX2_multiply 3 = .ok (.aload_n 0, 1) := zdcg 3 zdT_dX2_multiply_0 rfl
theorem dX2_multiply_4 : decode cX2_multiply 4 = .ok (.getfield 49, 3) := zdcg 4 zdT_dX2_multiply_0 rfl
theorem dX2_multiply_7 : decode cX2_multiply 7 = .ok (.getfield 100, 3) := zdcg 5 zdT_dX2_multiply_0 rfl
theorem dX2_multiply_10 : decode cX2_multiply 10 = .ok (.if_icmp .ge 48, 3) := zdcg 6 zdT_dX2_multiply_0 rfl
theorem dX2_multiply_13 : decode cX2_multiply 13 = .ok (.aload_n 1, 1) := zdcg 7 zdT_dX2_multiply_0 rfl
theorem dX2_multiply_14 : decode cX2_multiply 14 = .ok (.iload_n 3, 1) := zdcg 8 zdT_dX2_multiply_0 rfl
theorem dX2_multiply_15 : decode cX2_multiply 15 = .ok (.laload, 1) := zdcg 9 zdT_dX2_multiply_0 rfl
theorem dX2_multiply_16 : decode cX2_multiply 16 = .ok (.lconst 0, 1) := zdcg 10 zdT_dX2_multiply_0 rfl
theorem dX2_multiply_17 : decode cX2_multiply 17 = .ok (.lcmp, 1) := zdcg 11 zdT_dX2_multiply_0 rfl
theorem dX2_multiply_18 : decode cX2_multiply 18 = .ok (.ifCond .eq 25, 3) := zdcg 12 zdT_dX2_multiply_0 rfl
theorem dX2_multiply_21 : decode cX2_multiply 21 = .ok (.aload_n 2, 1) := zdcg 13 zdT_dX2_multiply_0 rfl
theorem dX2_multiply_22 : decode cX2_multiply 22 = .ok (.iload_n 3, 1) := zdcg 14 zdT_dX2_multiply_0 rfl
theorem dX2_multiply_23 : decode cX2_multiply 23 = .ok (.laload, 1) := zdcg 15 zdT_dX2_multiply_0 rfl
theorem dX2_multiply_24 : decode cX2_multiply 24 = .ok (.invokestatic 195, 3) := zdcg 16 zdT_dX2_multiply_0 rfl
theorem dX2_multiply_27 : decode cX2_multiply 27 = .ok (.ldc2_w 191, 3) := zdcg 17 zdT_dX2_multiply_0 rfl
theorem dX2_multiply_30 : decode cX2_multiply 30 = .ok (.aload_n 1, 1) := zdcg 18 zdT_dX2_multiply_0 rfl
theorem dX2_multiply_31 : decode cX2_multiply 31 = .ok (.iload_n 3, 1) := zdcg 19 zdT_dX2_multiply_0 rfl
theorem dX2_multiply_32 : decode cX2_multiply 32 = .ok (.laload, 1) := zdcg 20 zdT_dX2_multiply_0 rfl
theorem dX2_multiply_33 : decode cX2_multiply 33 = .ok (.invokestatic 195, 3) := zdcg 21 zdT_dX2_multiply_0 rfl
theorem dX2_multiply_36 : decode cX2_multiply 36 = .ok (.ldiv, 1) := zdcg 22 zdT_dX2_multiply_0 rfl
theorem dX2_multiply_37 : decode cX2_multiply 37 = .ok (.lcmp, 1) := zdcg 23 zdT_dX2_multiply_0 rfl
theorem dX2_multiply_38 : decode cX2_multiply 38 = .ok (.ifCond .le 5, 3) := zdcg 24 zdT_dX2_multiply_0 rfl
theorem zdT_dX2_multiply_41 : zdch cX2_multiply [(41, (.iconst 0, 1)), (42, (.ireturn, 1)), (43, (.aload_n 2, 1)), (44, (.iload_n 3, 1)), (45, (.dup2, 1)), (46, (.laload, 1)), (47, (.aload_n 1, 1)), (48, (.iload_n 3, 1)), (49, (.laload, 1)), (50, (.lmul, 1)), (51, (.lastore, 1)), (52, (.iinc 3 1, 3)), (55, (.goto (-53), 3)), (58, (.iconst 1, 1)), (59, (.ireturn, 1))] = true := by decide +kernel
theorem dX2_multiply_41 : decode cX2_multiply 41 = .ok (.iconst 0, 1) := zdcg 0 zdT_dX2_multiply_41 rfl
theorem dX2_multiply_42 : decode cX2_multiply 42 = .ok (.ireturn, 1) := zdcg 1 zdT_dX2_multiply_41 rfl
theorem dX2_multiply_43 : decode cX2_multiply 43 = .ok (.aload_n 2, 1) := zdcg 2 zdT_dX2_multiply_41 rfl
theorem dX2_multiply_44 : decode cX2_multiply 44 = .ok (.iload_n 3, 1) := zdcg 3 zdT_dX2_multiply_41 rfl
theorem dX2_multiply_45 : decode cX2_multiply 45 = .ok (.dup2, 1) := zdcg 4 zdT_dX2_multiply_41 rfl
theorem dX2_multiply_46 : decode cX2_multiply 46 = .ok (.laload, 1) := zdcg 5 zdT_dX2_multiply_41 rfl
theorem dX2_multiply_47 : decode cX2_multiply 47 = .ok (.aload_n 1, 1) := zdcg 6 zdT_dX2_multiply_41 rfl
theorem dX2_multiply_48 : decode cX2_multiply 48 = .ok (.iload_n 3, 1) := zdcg 7 zdT_dX2_multiply_41 rfl
theorem dX2_multiply_49 : decode cX2_multiply 49 = .ok (.laload, 1) := zdcg 8 zdT_dX2_multiply_41 rfl
theorem dX2_multiply_50 : decode cX2_multiply 50 = .ok (.lmul, 1) := zdcg 9 zdT_dX2_multiply_41 rfl
theorem dX2_multiply_51 : decode cX2_multiply 51 = .ok (.lastore, 1) := zdcg 10 zdT_dX2_multiply_41 rfl
theorem dX2_multiply_52 : decode cX2_multiply 52 = .ok (.iinc 3 1, 3) := zdcg 11 zdT_dX2_multiply_41 rfl
theorem dX2_multiply_55 : decode cX2_multiply 55 = .ok (.goto (-53), 3) := zdcg 12 zdT_dX2_multiply_41 rfl
theorem dX2_multiply_58 : decode cX2_multiply 58 = .ok (.iconst 1, 1) := zdcg 13 zdT_dX2_multiply_41 rfl
theorem dX2_multiply_59 : decode cX2_multiply 59 = .ok (.ireturn, 1) := zdcg 14 zdT_dX2_multiply_41 rfl
theorem zdT_dX3_init_0 : zdch cX3_init [(0, (.aload_n 0, 1)), (1, (.invokespecial 1, 3)), (4, (.aload_n 0, 1)), (5, (.iload_n 1, 1)), (6, (.putfield 7, 3)), (9, (.aload_n 0, 1)), (10, (.iload_n 2, 1)), (11, (.iload_n 3, 1))] = true := by decide +kernel
theorem dX3_init_0 : decode cX3_init 0 = .ok (.aload_n 0, 1) := zdcg 0 zdT_dX3_init_0 rfl
theorem dX3_init_1 : decode cX3_init 1 = .ok (.invokespecial 1, 3) := zdcg 1 zdT_dX3_init_0 rfl
theorem dX3_init_4 : decode cX3_init 4 = .ok (.aload_n 0, 1) := zdcg 2 zdT_dX3_init_0 rfl
theorem dX3_init_5 : decode cX3_init 5 = .ok (.iload_n 1, 1) := zdcg 3 zdT_dX3_init_0 rfl
theorem dX3_init_6 : decode cX3_init 6 = .ok (.putfield 7, 3) := zdcg 4 zdT_dX3_init_0 rfl
theorem dX3_init_9 : decode cX3_init 9 = .ok (.aload_n 0, 1) := zdcg 5 zdT_dX3_init_0 rfl
theorem dX3_init_10 : decode cX3_init 10 = .ok (.iload_n 2, 1) := zdcg 6 zdT_dX3_init_0 rfl
theorem dX3_init_11 : decode cX3_init 11 = .ok (.iload_n 3, 1) := zdcg 7 zdT_dX3_init_0 rfl
