section
/-! instructions, by program -/
theorem zdT_dX9_isIn_0 : zdch cX9_isIn [(0, (.lload_n 0, 1)), (1, (.lload_n 2, 1)), (2, (.lcmp, 1)), (3, (.ifCond .lt 14, 3)), (6, (.lload_n 0, 1)), (7, (.lload 4, 2)), (9, (.lcmp, 1)), (10, (.ifCond .gt 7, 3)), (13, (.iconst 1, 1)), (14, (.goto 4, 3)), (17, (.iconst 0, 1)), (18, (.ireturn, 1))] = true := by decide +kernel
theorem dX9_isIn_0 : decode cX9_isIn 0 = .ok (.lload_n 0, 1) := zdcg 0 zdT_dX9_isIn_0 rfl
theorem dX9_isIn_1 : decode cX9_isIn 1 = .ok (.lload_n 2, 1) := zdcg 1 zdT_dX9_isIn_0 rfl
theorem dX9_isIn_2 : decode cX9_isIn 2 = .ok (.lcmp, 1) := zdcg 2 zdT_dX9_isIn_0 rfl
theorem dX9_isIn_3 : decode cX9_isIn 3 = .ok (.ifCond .lt 14, 3) := zdcg 3 zdT_dX9_isIn_0 rfl
theorem dX9_isIn_6 : decode cX9_isIn 6 = .ok (.lload_n 0, 1) := zdcg 4 zdT_dX9_isIn_0 rfl
theorem dX9_isIn_7 : decode cX9_isIn 7 = .ok (.lload 4, 2) := zdcg 5 zdT_dX9_isIn_0 rfl
theorem dX9_isIn_9 : decode cX9_isIn 9 = .ok (.lcmp, 1) := zdcg 6 zdT_dX9_isIn_0 rfl
theorem dX9_isIn_10 : decode cX9_isIn 10 = .ok (.ifCond .gt 7, 3) := zdcg 7 zdT_dX9_isIn_0 rfl
theorem dX9_isIn_13 : decode cX9_isIn 13 = .ok (.iconst 1, 1) := zdcg 8 zdT_dX9_isIn_0 rfl
theorem dX9_isIn_14 : decode cX9_isIn 14 = .ok (.goto 4, 3) := zdcg 9 zdT_dX9_isIn_0 rfl
theorem dX9_isIn_17 : decode cX9_isIn 17 = .ok (.iconst 0, 1) := zdcg 10 zdT_dX9_isIn_0 rfl
theorem dX9_isIn_18 : decode cX9_isIn 18 = .ok (.ireturn, 1) := zdcg 11 zdT_dX9_isIn_0 rfl
theorem zdT_dX9_one_0 : zdch cX9_one [(0, (.iload_n 0, 1)), (1, (.ifCond .eq 7, 3)), (4, (.iconst 1, 1)), (5, (.goto 4, 3)), (8, (.iconst 0, 1)), (9, (.ireturn, 1))] = true := by decide +kernel
theorem dX9_one_0 : decode cX9_one 0 = .ok (.iload_n 0, 1) := zdcg 0 zdT_dX9_one_0 rfl
theorem dX9_one_1 : decode cX9_one 1 = .ok (.ifCond .eq 7, 3) := zdcg 1 zdT_dX9_one_0 rfl
theorem dX9_one_4 : decode cX9_one 4 = .ok (.iconst 1, 1) := zdcg 2 zdT_dX9_one_0 rfl
theorem dX9_one_5 : decode cX9_one 5 = .ok (.goto 4, 3) := zdcg 3 zdT_dX9_one_0 rfl
theorem dX9_one_8 : decode cX9_one 8 = .ok (.iconst 0, 1) := zdcg 4 zdT_dX9_one_0 rfl
theorem dX9_one_9 : decode cX9_one 9 = .ok (.ireturn, 1) := zdcg 5 zdT_dX9_one_0 rfl
theorem zdT_dX9_bits_0 : zdch cX9_bits [(0, (.iconst 0, 1)), (1, (.istore_n 1, 1)), (2, (.iload_n 0, 1)), (3, (.istore_n 2, 1)), (4, (.iload_n 2, 1)), (5, (.ifCond .eq 15, 3)), (8, (.iinc 1 1, 3)), (11, (.iload_n 2, 1)), (12, (.iload_n 2, 1)), (13, (.iconst 1, 1)), (14, (.isub, 1)), (15, (.iand, 1)), (16, (.istore_n 2, 1)), (17, (.goto (-13), 3)), (20, (.iload_n 1, 1)), (21, (.ireturn, 1))] = true := by decide +kernel
theorem dX9_bits_0 : decode cX9_bits 0 = .ok (.iconst 0, 1) := zdcg 0 zdT_dX9_bits_0 rfl
theorem dX9_bits_1 : decode cX9_bits 1 = .ok (.istore_n 1, 1) := zdcg 1 zdT_dX9_bits_0 rfl
theorem dX9_bits_2 : decode cX9_bits 2 = .ok (.iload_n 0, 1) := zdcg 2 zdT_dX9_bits_0 rfl
theorem dX9_bits_3 : decode cX9_bits 3 = .ok (.istore_n 2, 1) := zdcg 3 zdT_dX9_bits_0 rfl
theorem dX9_bits_4 : decode cX9_bits 4 = .ok (.iload_n 2, 1) := zdcg 4 zdT_dX9_bits_0 rfl
theorem dX9_bits_5 : decode cX9_bits 5 = .ok (.ifCond .eq 15, 3) := zdcg 5 zdT_dX9_bits_0 rfl
theorem dX9_bits_8 : decode cX9_bits 8 = .ok (.iinc 1 1, 3) := zdcg 6 zdT_dX9_bits_0 rfl
theorem dX9_bits_11 : decode cX9_bits 11 = .ok (.iload_n 2, 1) := zdcg 7 zdT_dX9_bits_0 rfl
theorem dX9_bits_12 : decode cX9_bits 12 = .ok (.iload_n 2, 1) := zdcg 8 zdT_dX9_bits_0 rfl
theorem dX9_bits_13 : decode cX9_bits 13 = .ok (.iconst 1, 1) := zdcg 9 zdT_dX9_bits_0 rfl
theorem dX9_bits_14 : decode cX9_bits 14 = .ok (.isub, 1) := zdcg 10 zdT_dX9_bits_0 rfl
theorem dX9_bits_15 : decode cX9_bits 15 = .ok (.iand, 1) := zdcg 11 zdT_dX9_bits_0 rfl
theorem dX9_bits_16 : decode cX9_bits 16 = .ok (.istore_n 2, 1) := zdcg 12 zdT_dX9_bits_0 rfl
theorem dX9_bits_17 : decode cX9_bits 17 = .ok (.goto (-13), 3) := zdcg 13 zdT_dX9_bits_0 rfl
theorem dX9_bits_20 : decode cX9_bits 20 = .ok (.iload_n 1, 1) := zdcg 14 zdT_dX9_bits_0 rfl
theorem dX9_bits_21 : decode cX9_bits 21 = .ok (.ireturn, 1) := zdcg 15 zdT_dX9_bits_0 rfl
theorem zdT_dX9_init_0 : zdch cX9_init [(0, (.aload_n 0, 1)), (1, (.invokespecial 1, 3)), (4, (.aload_n 0, 1)), (5, (.bipush 66, 2)), (7, (.newarray .int, 2)), (9, (.putfield 7, 3)), (12, (.aload_n 0, 1)), (13, (.bipush 11, 2)), (15, (.newarray .int, 2)), (17, (.putfield 13, 3)), (20, (.aload_n 0, 1)), (21, (.bipush 11, 2)), (23, (.newarray .int, 2)), (25, (.putfield 16, 3)), (28, (.aload_n 0, 1)), (29, (.bipush 11, 2)), (31, (.newarray .int, 2)), (33, (.putfield 19, 3)), (36, (.aload_n 0, 1)), (37, (.bipush 11, 2)), (39, (.newarray .boolean, 2)), (41, (.putfield 22, 3)), (44, (.aload_n 0, 1)), (45, (.bipush 11, 2)), (47, (.newarray .boolean, 2))] = true := by decide +kernel
theorem dX9_init_0 : decode cX9_init 0 = .ok (.aload_n 0, 1) := zdcg 0 zdT_dX9_init_0 rfl
theorem dX9_init_1 : decode cX9_init 1 = .ok (.invokespecial 1, 3) := zdcg 1 zdT_dX9_init_0 rfl
theorem dX9_init_4 : decode cX9_init 4 = .ok (.aload_n 0, 1) := zdcg 2 zdT_dX9_init_0 rfl
theorem dX9_init_5 : decode cX9_init 5 = .ok (.bipush 66, 2) := zdcg 3 zdT_dX9_init_0 rfl
theorem dX9_init_7 : decode cX9_init 7 = .ok (.newarray .int, 2) := zdcg 4 zdT_dX9_init_0 rfl
theorem dX9_init_9 : decode cX9_init 9 = .ok (.putfield 7, 3) := zdcg 5 zdT_dX9_init_0 rfl
theorem dX9_init_12 : decode cX9_init 12 = .ok (.aload_n 0, 1) := zdcg 6 zdT_dX9_init_0 rfl
theorem dX9_init_13 : decode cX9_init 13 = .ok (.bipush 11, 2) := zdcg 7 zdT_dX9_init_0 rfl
theorem dX9_init_15 : decode cX9_init 15 = .ok (.newarray .int, 2) := zdcg 8 zdT_dX9_init_0 rfl
theorem dX9_init_17 : decode cX9_init 17 = .ok (.putfield 13, 3) := zdcg 9 zdT_dX9_init_0 rfl
theorem dX9_init_20 : decode cX9_init 20 = .ok (.aload_n 0, 1) := zdcg 10 zdT_dX9_init_0 rfl
theorem dX9_init_21 : decode cX9_init 21 = .ok (.bipush 11, 2) := zdcg 11 zdT_dX9_init_0 rfl
theorem dX9_init_23 : decode cX9_init 23 = .ok (.newarray .int, 2) := zdcg 12 zdT_dX9_init_0 rfl
theorem dX9_init_25 : decode cX9_init 25 = .ok (.putfield 16, 3) := zdcg 13 zdT_dX9_init_0 rfl
theorem dX9_init_28 : decode cX9_init 28 = .ok (.aload_n 0, 1) := zdcg 14 zdT_dX9_init_0 rfl
theorem dX9_init_29 : decode cX9_init 29 = .ok (.bipush 11, 2) := zdcg 15 zdT_dX9_init_0 rfl
theorem dX9_init_31 : decode cX9_init 31 = .ok (.newarray .int, 2) := zdcg 16 zdT_dX9_init_0 rfl
theorem dX9_init_33 : decode cX9_init 33 = .ok (.putfield 19, 3) := zdcg 17 zdT_dX9_init_0 rfl
theorem dX9_init_36 : decode cX9_init 36 = .ok (.aload_n 0, 1) := zdcg 18 zdT_dX9_init_0 rfl
theorem dX9_init_37 : decode cX9_init 37 = .ok (.bipush 11, 2) := zdcg 19 zdT_dX9_init_0 rfl
theorem dX9_init_39 : decode cX9_init 39 = .ok (.newarray .boolean, 2) := zdcg 20 zdT_dX9_init_0 rfl
theorem dX9_init_41 : decode cX9_init 41 = .ok (.putfield 22, 3) := zdcg 21 zdT_dX9_init_0 rfl
theorem dX9_init_44 : decode cX9_init 44 = .ok (.aload_n 0, 1) := zdcg 22 zdT_dX9_init_0 rfl
theorem dX9_init_45 : decode cX9_init 45 = .ok (.bipush 11, 2) := zdcg 23 zdT_dX9_init_0 rfl
theorem dX9_init_47 : decode cX9_init 47 = .ok (.newarray .boolean, 2) := zdcg 24 zdT_dX9_init_0 rfl
theorem zdT_dX9_init_49 : zdch cX9_init [(49, (.putfield 26, 3)), (52, (.aload_n 0, 1)), (53, (.bipush 11, 2)), (55, (.newarray .int, 2)), (57, (.putfield 29, 3)), (60, (.aload_n 0, 1)), (61, (.bipush 11, 2)), (63, (.newarray .int, 2)), (65, (.putfield 32, 3)), (68, (.aload_n 0, 1)), (69, (.bipush 6, 2)), (71, (.newarray .int, 2)), (73, (.putfield 35, 3)), (76, (.aload_n 0, 1)), (77, (.bipush 121, 2)), (79, (.newarray .int, 2)), (81, (.putfield 38, 3)), (84, (.aload_n 0, 1)), (85, (.bipush 11, 2)), (87, (.newarray .int, 2)), (89, (.putfield 41, 3)), (92, (.aload_n 0, 1)), (93, (.bipush 11, 2)), (95, (.newarray .int, 2)), (97, (.putfield 44, 3))] = true := by decide +kernel
theorem dX9_init_49 : decode cX9_init 49 = .ok (.putfield 26, 3) := zdcg 0 zdT_dX9_init_49 rfl
theorem dX9_init_52 : decode cX9_init 52 = .ok (.aload_n 0, 1) := zdcg 1 zdT_dX9_init_49 rfl
theorem dX9_init_53 : decode cX9_init 53 = .ok (.bipush 11, 2) := zdcg 2 zdT_dX9_init_49 rfl
theorem dX9_init_55 : decode cX9_init 55 = .ok (.newarray .int, 2) := zdcg 3 zdT_dX9_init_49 rfl
theorem dX9_init_57 : decode cX9_init 57 = .ok (.putfield 29, 3) := zdcg 4 zdT_dX9_init_49 rfl
theorem dX9_init_60 : decode cX9_init 60 = .ok (.aload_n 0, 1) := zdcg 5 zdT_dX9_init_49 rfl
theorem dX9_init_61 : decode cX9_init 61 = .ok (.bipush 11, 2) := zdcg 6 zdT_dX9_init_49 rfl
theorem dX9_init_63 : decode cX9_init 63 = .ok (.newarray .int, 2) := zdcg 7 zdT_dX9_init_49 rfl
theorem dX9_init_65 : decode cX9_init 65 = .ok (.putfield 32, 3) := zdcg 8 zdT_dX9_init_49 rfl
theorem dX9_init_68 : decode cX9_init 68 = .ok (.aload_n 0, 1) := zdcg 9 zdT_dX9_init_49 rfl
theorem dX9_init_69 : decode cX9_init 69 = .ok (.bipush 6, 2) := zdcg 10 zdT_dX9_init_49 rfl
theorem dX9_init_71 : decode cX9_init 71 = .ok (.newarray .int, 2) := zdcg 11 zdT_dX9_init_49 rfl
theorem dX9_init_73 : decode cX9_init 73 = .ok (.putfield 35, 3) := zdcg 12 zdT_dX9_init_49 rfl
theorem dX9_init_76 : decode cX9_init 76 = .ok (.aload_n 0, 1) := zdcg 13 zdT_dX9_init_49 rfl
theorem dX9_init_77 : decode cX9_init 77 = .ok (.bipush 121, 2) := zdcg 14 zdT_dX9_init_49 rfl
theorem dX9_init_79 : decode cX9_init 79 = .ok (.newarray .int, 2) := zdcg 15 zdT_dX9_init_49 rfl
theorem dX9_init_81 : decode cX9_init 81 = .ok (.putfield 38, 3) := zdcg 16 zdT_dX9_init_49 rfl
theorem dX9_init_84 : decode cX9_init 84 = .ok (.aload_n 0, 1) := zdcg 17 zdT_dX9_init_49 rfl
theorem dX9_init_85 : decode cX9_init 85 = .ok (.bipush 11, 2) := zdcg 18 zdT_dX9_init_49 rfl
theorem dX9_init_87 : decode cX9_init 87 = .ok (.newarray .int, 2) := zdcg 19 zdT_dX9_init_49 rfl
theorem dX9_init_89 : decode cX9_init 89 = .ok (.putfield 41, 3) := zdcg 20 zdT_dX9_init_49 rfl
theorem dX9_init_92 : decode cX9_init 92 = .ok (.aload_n 0, 1) := zdcg 21 zdT_dX9_init_49 rfl
theorem dX9_init_93 : decode cX9_init 93 = .ok (.bipush 11, 2) := zdcg 22 zdT_dX9_init_49 rfl
theorem dX9_init_95 : decode cX9_init 95 = .ok (.newarray .int, 2) := zdcg 23 zdT_dX9_init_49 rfl
theorem dX9_init_97 : decode cX9_init 97 = .ok (.putfield 44, 3) := zdcg 24 zdT_dX9_init_49 rfl
theorem zdT_dX9_init_100 : zdch cX9_init [(100, (.aload_n 0, 1)), (101, (.bipush 11, 2)), (103, (.newarray .int, 2)), (105, (.putfield 47, 3)), (108, (.aload_n 0, 1)), (109, (.bipush 11, 2)), (111, (.newarray .int, 2)), (113, (.putfield 50, 3)), (116, (.aload_n 0, 1)), (117, (.bipush 11, 2)), (119, (.newarray .int, 2)), (121, (.putfield 53, 3)), (124, (.aload_n 0, 1)), (125, (.bipush 11, 2)), (127, (.newarray .int, 2)), (129, (.putfield 56, 3)), (132, (.aload_n 0, 1)), (133, (.sipush 456, 3)), (136, (.newarray .int, 2)), (138, (.putfield 59, 3)), (141, (.aload_n 0, 1)), (142, (.bipush 6, 2)), (144, (.newarray .int, 2)), (146, (.putfield 62, 3)), (149, (.aload_n 0, 1))] = true := by decide +kernel
theorem dX9_init_100 : decode cX9_init 100 = .ok (.aload_n 0, 1) := zdcg 0 zdT_dX9_init_100 rfl
theorem dX9_init_101 : decode cX9_init 101 = .ok (.bipush 11, 2) := zdcg 1 zdT_dX9_init_100 rfl
theorem dX9_init_103 : decode cX9_init 103 = .ok (.newarray .int, 2) := zdcg 2 zdT_dX9_init_100 rfl
theorem dX9_init_105 : decode cX9_init 105 = .ok (.putfield 47, 3) := zdcg 3 zdT_dX9_init_100 rfl
theorem dX9_init_108 : decode cX9_init 108 = .ok (.aload_n 0, 1) := zdcg 4 zdT_dX9_init_100 rfl
theorem dX9_init_109 : decode cX9_init 109 = .ok (.bipush 11, 2) := zdcg 5 zdT_dX9_init_100 rfl
theorem dX9_init_111 : decode cX9_init 111 = .ok (.newarray .int, 2) := zdcg 6 zdT_dX9_init_100 rfl
theorem dX9_init_113 : decode cX9_init 113 = .ok (.putfield 50, 3) := zdcg 7 zdT_dX9_init_100 rfl
theorem dX9_init_116 : decode cX9_init 116 = .ok (.aload_n 0, 1) := zdcg 8 zdT_dX9_init_100 rfl
theorem dX9_init_117 : decode cX9_init 117 = .ok (.bipush 11, 2) := zdcg 9 zdT_dX9_init_100 rfl
theorem dX9_init_119 : decode cX9_init 119 = .ok (.newarray .int, 2) := zdcg 10 zdT_dX9_init_100 rfl
theorem dX9_init_121 : decode cX9_init 121 = .ok (.putfield 53, 3) := zdcg 11 zdT_dX9_init_100 rfl
theorem dX9_init_124 : decode cX9_init 124 = .ok (.aload_n 0, 1) := zdcg 12 zdT_dX9_init_100 rfl
theorem dX9_init_125 : decode cX9_init 125 = .ok (.bipush 11, 2) := zdcg 13 zdT_dX9_init_100 rfl
theorem dX9_init_127 : decode cX9_init 127 = .ok (.newarray .int, 2) := zdcg 14 zdT_dX9_init_100 rfl
theorem dX9_init_129 : decode cX9_init 129 = .ok (.putfield 56, 3) := zdcg 15 zdT_dX9_init_100 rfl
theorem dX9_init_132 : decode cX9_init 132 = .ok (.aload_n 0, 1) := zdcg 16 zdT_dX9_init_100 rfl
theorem dX9_init_133 : decode cX9_init 133 = .ok (.sipush 456, 3) := zdcg 17 zdT_dX9_init_100 rfl
theorem dX9_init_136 : decode cX9_init 136 = .ok (.newarray .int, 2) := zdcg 18 zdT_dX9_init_100 rfl
theorem dX9_init_138 : decode cX9_init 138 = .ok (.putfield 59, 3) := zdcg 19 zdT_dX9_init_100 rfl
theorem dX9_init_141 : decode cX9_init 141 = .ok (.aload_n 0, 1) := zdcg 20 zdT_dX9_init_100 rfl
theorem dX9_init_142 : decode cX9_init 142 = .ok (.bipush 6, 2) := zdcg 21 zdT_dX9_init_100 rfl
theorem dX9_init_144 : decode cX9_init 144 = .ok (.newarray .int, 2) := zdcg 22 zdT_dX9_init_100 rfl
theorem dX9_init_146 : decode cX9_init 146 = .ok (.putfield 62, 3) := zdcg 23 zdT_dX9_init_100 rfl
theorem dX9_init_149 : decode cX9_init 149 = .ok (.aload_n 0, 1) := zdcg 24 zdT_dX9_init_100 rfl
theorem zdT_dX9_init_150 : zdch cX9_init [(150, (.ldc 65, 2)), (152, (.newarray .int, 2)), (154, (.putfield 66, 3)), (157, (.aload_n 0, 1)), (158, (.sipush 720, 3)), (161, (.newarray .int, 2)), (163, (.putfield 69, 3)), (166, (.aload_n 0, 1)), (167, (.sipush 12000, 3)), (170, (.newarray .int, 2)), (172, (.putfield 72, 3)), (175, (.aload_n 0, 1)), (176, (.sipush 12000, 3)), (179, (.newarray .int, 2)), (181, (.putfield 75, 3)), (184, (.aload_n 0, 1)), (185, (.bipush 6, 2)), (187, (.newarray .int, 2)), (189, (.putfield 78, 3)), (192, (.aload_n 0, 1)), (193, (.bipush 7, 2)), (195, (.newarray .int, 2)), (197, (.putfield 81, 3)), (200, (.aload_n 0, 1)), (201, (.bipush 7, 2))] = true := by decide +kernel
theorem dX9_init_150 : decode cX9_init 150 = .ok (.ldc 65, 2) := zdcg 0 zdT_dX9_init_150 rfl
theorem dX9_init_152 : decode cX9_init 152 = .ok (.newarray .int, 2) := zdcg 1 zdT_dX9_init_150 rfl
theorem dX9_init_154 : decode cX9_init 154 = .ok (.putfield 66, 3) := zdcg 2 zdT_dX9_init_150 rfl
theorem dX9_init_157 : decode cX9_init 157 = .ok (.aload_n 0, 1) := zdcg 3 zdT_dX9_init_150 rfl
theorem dX9_init_158 : decode cX9_init 158 = .ok (.sipush 720, 3) := zdcg 4 zdT_dX9_init_150 rfl
theorem dX9_init_161 : decode cX9_init 161 = .ok (.newarray .int, 2) := zdcg 5 zdT_dX9_init_150 rfl
theorem dX9_init_163 : decode cX9_init 163 = .ok (.putfield 69, 3) := zdcg 6 zdT_dX9_init_150 rfl
theorem dX9_init_166 : decode cX9_init 166 = .ok (.aload_n 0, 1) := zdcg 7 zdT_dX9_init_150 rfl
theorem dX9_init_167 : decode cX9_init 167 = .ok (.sipush 12000, 3) := zdcg 8 zdT_dX9_init_150 rfl
theorem dX9_init_170 : decode cX9_init 170 = .ok (.newarray .int, 2) := zdcg 9 zdT_dX9_init_150 rfl
theorem dX9_init_172 : decode cX9_init 172 = .ok (.putfield 72, 3) := zdcg 10 zdT_dX9_init_150 rfl
theorem dX9_init_175 : decode cX9_init 175 = .ok (.aload_n 0, 1) := zdcg 11 zdT_dX9_init_150 rfl
theorem dX9_init_176 : decode cX9_init 176 = .ok (.sipush 12000, 3) := zdcg 12 zdT_dX9_init_150 rfl
theorem dX9_init_179 : decode cX9_init 179 = .ok (.newarray .int, 2) := zdcg 13 zdT_dX9_init_150 rfl
theorem dX9_init_181 : decode cX9_init 181 = .ok (.putfield 75, 3) := zdcg 14 zdT_dX9_init_150 rfl
theorem dX9_init_184 : decode cX9_init 184 = .ok (.aload_n 0, 1) := zdcg 15 zdT_dX9_init_150 rfl
theorem dX9_init_185 : decode cX9_init 185 = .ok (.bipush 6, 2) := zdcg 16 zdT_dX9_init_150 rfl
theorem dX9_init_187 : decode cX9_init 187 = .ok (.newarray .int, 2) := zdcg 17 zdT_dX9_init_150 rfl
theorem dX9_init_189 : decode cX9_init 189 = .ok (.putfield 78, 3) := zdcg 18 zdT_dX9_init_150 rfl
theorem dX9_init_192 : decode cX9_init 192 = .ok (.aload_n 0, 1) := zdcg 19 zdT_dX9_init_150 rfl
theorem dX9_init_193 : decode cX9_init 193 = .ok (.bipush 7, 2) := zdcg 20 zdT_dX9_init_150 rfl
theorem dX9_init_195 : decode cX9_init 195 = .ok (.newarray .int, 2) := zdcg 21 zdT_dX9_init_150 rfl
theorem dX9_init_197 : decode cX9_init 197 = .ok (.putfield 81, 3) := zdcg 22 zdT_dX9_init_150 rfl
theorem dX9_init_200 : decode cX9_init 200 = .ok (.aload_n 0, 1) := zdcg 23 zdT_dX9_init_150 rfl
theorem dX9_init_201 : decode cX9_init 201 = .ok (.bipush 7, 2) := zdcg 24 zdT_dX9_init_150 rfl
theorem zdT_dX9_init_203 : zdch cX9_init [(203, (.newarray .int, 2)), (205, (.putfield 84, 3)), (208, (.aload_n 0, 1)), (209, (.sipush 256, 3)), (212, (.newarray .int, 2)), (214, (.putfield 87, 3)), (217, (.aload_n 0, 1)), (218, (.sipush 2816, 3)), (221, (.newarray .int, 2)), (223, (.putfield 90, 3)), (226, (.aload_n 0, 1)), (227, (.bipush 11, 2)), (229, (.newarray .int, 2)), (231, (.putfield 93, 3)), (234, (.aload_n 0, 1)), (235, (.bipush 121, 2)), (237, (.newarray .int, 2)), (239, (.putfield 96, 3)), (242, (.aload_n 0, 1)), (243, (.bipush 121, 2)), (245, (.newarray .int, 2)), (247, (.putfield 99, 3)), (250, (.aload_n 0, 1)), (251, (.sipush 242, 3)), (254, (.newarray .int, 2))] = true := by decide +kernel
theorem dX9_init_203 : decode cX9_init 203 = .ok (.newarray .int, 2) := zdcg 0 zdT_dX9_init_203 rfl
theorem dX9_init_205 : decode cX9_init 205 = .ok (.putfield 84, 3) := zdcg 1 zdT_dX9_init_203 rfl
theorem dX9_init_208 : decode cX9_init 208 = .ok (.aload_n 0, 1) := zdcg 2 zdT_dX9_init_203 rfl
theorem dX9_init_209 : decode cX9_init 209 = .ok (.sipush 256, 3) := zdcg 3 zdT_dX9_init_203 rfl
theorem dX9_init_212 : decode cX9_init 212 = .ok (.newarray .int, 2) := zdcg 4 zdT_dX9_init_203 rfl
theorem dX9_init_214 : decode cX9_init 214 = .ok (.putfield 87, 3) := zdcg 5 zdT_dX9_init_203 rfl
theorem dX9_init_217 : decode cX9_init 217 = .ok (.aload_n 0, 1) := zdcg 6 zdT_dX9_init_203 rfl
theorem dX9_init_218 : decode cX9_init 218 = .ok (.sipush 2816, 3) := zdcg 7 zdT_dX9_init_203 rfl
theorem dX9_init_221 : decode cX9_init 221 = .ok (.newarray .int, 2) := zdcg 8 zdT_dX9_init_203 rfl
theorem dX9_init_223 : decode cX9_init 223 = .ok (.putfield 90, 3) := zdcg 9 zdT_dX9_init_203 rfl
theorem dX9_init_226 : decode cX9_init 226 = .ok (.aload_n 0, 1) := zdcg 10 zdT_dX9_init_203 rfl
theorem dX9_init_227 : decode cX9_init 227 = .ok (.bipush 11, 2) := zdcg 11 zdT_dX9_init_203 rfl
theorem dX9_init_229 : decode cX9_init 229 = .ok (.newarray .int, 2) := zdcg 12 zdT_dX9_init_203 rfl
theorem dX9_init_231 : decode cX9_init 231 = .ok (.putfield 93, 3) := zdcg 13 zdT_dX9_init_203 rfl
theorem dX9_init_234 : decode cX9_init 234 = .ok (.aload_n 0, 1) := zdcg 14 zdT_dX9_init_203 rfl
theorem dX9_init_235 : decode cX9_init 235 = .ok (.bipush 121, 2) := zdcg 15 zdT_dX9_init_203 rfl
theorem dX9_init_237 : decode cX9_init 237 = .ok (.newarray .int, 2) := zdcg 16 zdT_dX9_init_203 rfl
theorem dX9_init_239 : decode cX9_init 239 = .ok (.putfield 96, 3) := zdcg 17 zdT_dX9_init_203 rfl
theorem dX9_init_242 : decode cX9_init 242 = .ok (.aload_n 0, 1) := zdcg 18 zdT_dX9_init_203 rfl
theorem dX9_init_243 : decode cX9_init 243 = .ok (.bipush 121, 2) := zdcg 19 zdT_dX9_init_203 rfl
theorem dX9_init_245 : decode cX9_init 245 = .ok (.newarray .int, 2) := zdcg 20 zdT_dX9_init_203 rfl
theorem dX9_init_247 : decode cX9_init 247 = .ok (.putfield 99, 3) := zdcg 21 zdT_dX9_init_203 rfl
theorem dX9_init_250 : decode cX9_init 250 = .ok (.aload_n 0, 1) := zdcg 22 zdT_dX9_init_203 rfl
theorem dX9_init_251 : decode cX9_init 251 = .ok (.sipush 242, 3) := zdcg 23 zdT_dX9_init_203 rfl
theorem dX9_init_254 : decode cX9_init 254 = .ok (.newarray .int, 2) := zdcg 24 zdT_dX9_init_203 rfl
theorem zdT_dX9_init_256 : zdch cX9_init [(256, (.putfield 102, 3)), (259, (.aload_n 0, 1)), (260, (.bipush 121, 2)), (262, (.newarray .int, 2)), (264, (.putfield 105, 3)), (267, (.aload_n 0, 1)), (268, (.bipush 121, 2)), (270, (.newarray .long, 2)), (272, (.putfield 108, 3)), (275, (.aload_n 0, 1)), (276, (.bipush 11, 2)), (278, (.newarray .int, 2)), (280, (.putfield 112, 3)), (283, (.aload_n 0, 1)), (284, (.bipush 66, 2)), (286, (.newarray .long, 2)), (288, (.putfield 115, 3)), (291, (.aload_n 0, 1)), (292, (.bipush 11, 2)), (294, (.newarray .long, 2)), (296, (.putfield 118, 3)), (299, (.aload_n 0, 1)), (300, (.sipush 200, 3)), (303, (.newarray .int, 2)), (305, (.putfield 121, 3))] = true := by decide +kernel
theorem dX9_init_256 : decode cX9_init 256 = .ok (.putfield 102, 3) := zdcg 0 zdT_dX9_init_256 rfl
theorem dX9_init_259 : decode cX9_init 259 = .ok (.aload_n 0, 1) := zdcg 1 zdT_dX9_init_256 rfl
theorem dX9_init_260 : decode cX9_init 260 = .ok (.bipush 121, 2) := zdcg 2 zdT_dX9_init_256 rfl
theorem dX9_init_262 : decode cX9_init 262 = .ok (.newarray .int, 2) := zdcg 3 zdT_dX9_init_256 rfl
theorem dX9_init_264 : decode cX9_init 264 = .ok (.putfield 105, 3) := zdcg 4 zdT_dX9_init_256 rfl
theorem dX9_init_267 : decode cX9_init 267 = .ok (.aload_n 0, 1) := zdcg 5 zdT_dX9_init_256 rfl
theorem dX9_init_268 : decode cX9_init 268 = .ok (.bipush 121, 2) := zdcg 6 zdT_dX9_init_256 rfl
theorem dX9_init_270 : decode cX9_init 270 = .ok (.newarray .long, 2) := zdcg 7 zdT_dX9_init_256 rfl
theorem dX9_init_272 : decode cX9_init 272 = .ok (.putfield 108, 3) := zdcg 8 zdT_dX9_init_256 rfl
theorem dX9_init_275 : decode cX9_init 275 = .ok (.aload_n 0, 1) := zdcg 9 zdT_dX9_init_256 rfl
theorem dX9_init_276 : decode cX9_init 276 = .ok (.bipush 11, 2) := zdcg 10 zdT_dX9_init_256 rfl
theorem dX9_init_278 : decode cX9_init 278 = .ok (.newarray .int, 2) := zdcg 11 zdT_dX9_init_256 rfl
theorem dX9_init_280 : decode cX9_init 280 = .ok (.putfield 112, 3) := zdcg 12 zdT_dX9_init_256 rfl
theorem dX9_init_283 : decode cX9_init 283 = .ok (.aload_n 0, 1) := zdcg 13 zdT_dX9_init_256 rfl
theorem dX9_init_284 : decode cX9_init 284 = .ok (.bipush 66, 2) := zdcg 14 zdT_dX9_init_256 rfl
theorem dX9_init_286 : decode cX9_init 286 = .ok (.newarray .long, 2) := zdcg 15 zdT_dX9_init_256 rfl
theorem dX9_init_288 : decode cX9_init 288 = .ok (.putfield 115, 3) := zdcg 16 zdT_dX9_init_256 rfl
theorem dX9_init_291 : decode cX9_init 291 = .ok (.aload_n 0, 1) := zdcg 17 zdT_dX9_init_256 rfl
theorem dX9_init_292 : decode cX9_init 292 = .ok (.bipush 11, 2) := zdcg 18 zdT_dX9_init_256 rfl
theorem dX9_init_294 : decode cX9_init 294 = .ok (.newarray .long, 2) := zdcg 19 zdT_dX9_init_256 rfl
theorem dX9_init_296 : decode cX9_init 296 = .ok (.putfield 118, 3) := zdcg 20 zdT_dX9_init_256 rfl
theorem dX9_init_299 : decode cX9_init 299 = .ok (.aload_n 0, 1) := zdcg 21 zdT_dX9_init_256 rfl
theorem dX9_init_300 : decode cX9_init 300 = .ok (.sipush 200, 3) := zdcg 22 zdT_dX9_init_256 rfl
theorem dX9_init_303 : decode cX9_init 303 = .ok (.newarray .int, 2) := zdcg 23 zdT_dX9_init_256 rfl
theorem dX9_init_305 : decode cX9_init 305 = .ok (.putfield 121, 3) := zdcg 24 zdT_dX9_init_256 rfl
theorem zdT_dX9_init_308 : zdch cX9_init [(308, (.aload_n 0, 1)), (309, (.iconst (-1), 1)), (310, (.putfield 124, 3)), (313, (.aload_n 0, 1)), (314, (.bipush 20, 2)), (316, (.newarray .int, 2)), (318, (.putfield 128, 3)), (321, (.aload_n 0, 1)), (322, (.bipush 20, 2)), (324, (.newarray .int, 2)), (326, (.putfield 131, 3)), (329, (.aload_n 0, 1)), (330, (.bipush 55, 2)), (332, (.newarray .long, 2)), (334, (.putfield 134, 3)), (337, (.aload_n 0, 1)), (338, (.bipush 55, 2)), (340, (.newarray .long, 2)), (342, (.putfield 137, 3)), (345, (.aload_n 0, 1)), (346, (.bipush 11, 2)), (348, (.newarray .long, 2)), (350, (.putfield 140, 3)), (353, (.aload_n 0, 1)), (354, (.bipush 6, 2))] = true := by decide +kernel
theorem dX9_init_308 : decode cX9_init 308 = .ok (.aload_n 0, 1) := zdcg 0 zdT_dX9_init_308 rfl
theorem dX9_init_309 : decode cX9_init 309 = .ok (.iconst (-1), 1) := zdcg 1 zdT_dX9_init_308 rfl
theorem dX9_init_310 : decode cX9_init 310 = .ok (.putfield 124, 3) := zdcg 2 zdT_dX9_init_308 rfl
theorem dX9_init_313 : decode cX9_init 313 = .ok (.aload_n 0, 1) := zdcg 3 zdT_dX9_init_308 rfl
theorem dX9_init_314 : decode cX9_init 314 = .ok (.bipush 20, 2) := zdcg 4 zdT_dX9_init_308 rfl
theorem dX9_init_316 : decode cX9_init 316 = .ok (.newarray .int, 2) := zdcg 5 zdT_dX9_init_308 rfl
theorem dX9_init_318 : decode cX9_init 318 = .ok (.putfield 128, 3) := zdcg 6 zdT_dX9_init_308 rfl
theorem dX9_init_321 : decode cX9_init 321 = .ok (.aload_n 0, 1) := zdcg 7 zdT_dX9_init_308 rfl
theorem dX9_init_322 : decode cX9_init 322 = .ok (.bipush 20, 2) := zdcg 8 zdT_dX9_init_308 rfl
theorem dX9_init_324 : decode cX9_init 324 = .ok (.newarray .int, 2) := zdcg 9 zdT_dX9_init_308 rfl
theorem dX9_init_326 : decode cX9_init 326 = .ok (.putfield 131, 3) := zdcg 10 zdT_dX9_init_308 rfl
theorem dX9_init_329 : decode cX9_init 329 = .ok (.aload_n 0, 1) := zdcg 11 zdT_dX9_init_308 rfl
theorem dX9_init_330 : decode cX9_init 330 = .ok (.bipush 55, 2) := zdcg 12 zdT_dX9_init_308 rfl
theorem dX9_init_332 : decode cX9_init 332 = .ok (.newarray .long, 2) := zdcg 13 zdT_dX9_init_308 rfl
theorem dX9_init_334 : decode cX9_init 334 = .ok (.putfield 134, 3) := zdcg 14 zdT_dX9_init_308 rfl
theorem dX9_init_337 : decode cX9_init 337 = .ok (.aload_n 0, 1) := zdcg 15 zdT_dX9_init_308 rfl
theorem dX9_init_338 : decode cX9_init 338 = .ok (.bipush 55, 2) := zdcg 16 zdT_dX9_init_308 rfl
theorem dX9_init_340 : decode cX9_init 340 = .ok (.newarray .long, 2) := zdcg 17 zdT_dX9_init_308 rfl
theorem dX9_init_342 : decode cX9_init 342 = .ok (.putfield 137, 3) := zdcg 18 zdT_dX9_init_308 rfl
theorem dX9_init_345 : decode cX9_init 345 = .ok (.aload_n 0, 1) := zdcg 19 zdT_dX9_init_308 rfl
theorem dX9_init_346 : decode cX9_init 346 = .ok (.bipush 11, 2) := zdcg 20 zdT_dX9_init_308 rfl
theorem dX9_init_348 : decode cX9_init 348 = .ok (.newarray .long, 2) := zdcg 21 zdT_dX9_init_308 rfl
theorem dX9_init_350 : decode cX9_init 350 = .ok (.putfield 140, 3) := zdcg 22 zdT_dX9_init_308 rfl
theorem dX9_init_353 : decode cX9_init 353 = .ok (.aload_n 0, 1) := zdcg 23 zdT_dX9_init_308 rfl
theorem dX9_init_354 : decode cX9_init 354 = .ok (.bipush 6, 2) := zdcg 24 zdT_dX9_init_308 rfl
theorem zdT_dX9_init_356 : zdch cX9_init [(356, (.newarray .int, 2)), (358, (.putfield 143, 3)), (361, (.aload_n 0, 1)), (362, (.bipush 6, 2)), (364, (.newarray .int, 2)), (366, (.putfield 146, 3)), (369, (.aload_n 0, 1)), (370, (.iconst 3, 1)), (371, (.iconst 2, 1)), (372, (.invokevirtual 149, 3)), (375, (.return_, 1))] = true := by decide +kernel
theorem dX9_init_356 : decode cX9_init 356 = .ok (.newarray .int, 2) := zdcg 0 zdT_dX9_init_356 rfl
theorem dX9_init_358 : decode cX9_init 358 = .ok (.putfield 143, 3) := zdcg 1 zdT_dX9_init_356 rfl
theorem dX9_init_361 : decode cX9_init 361 = .ok (.aload_n 0, 1) := zdcg 2 zdT_dX9_init_356 rfl
theorem dX9_init_362 : decode cX9_init 362 = .ok (.bipush 6, 2) := zdcg 3 zdT_dX9_init_356 rfl
theorem dX9_init_364 : decode cX9_init 364 = .ok (.newarray .int, 2) := zdcg 4 zdT_dX9_init_356 rfl
theorem dX9_init_366 : decode cX9_init 366 = .ok (.putfield 146, 3) := zdcg 5 zdT_dX9_init_356 rfl
theorem dX9_init_369 : decode cX9_init 369 = .ok (.aload_n 0, 1) := zdcg 6 zdT_dX9_init_356 rfl
theorem dX9_init_370 : decode cX9_init 370 = .ok (.iconst 3, 1) := zdcg 7 zdT_dX9_init_356 rfl
theorem dX9_init_371 : decode cX9_init 371 = .ok (.iconst 2, 1) := zdcg 8 zdT_dX9_init_356 rfl
theorem dX9_init_372 : decode cX9_init 372 = .ok (.invokevirtual 149, 3) := zdcg 9 zdT_dX9_init_356 rfl
theorem dX9_init_375 : decode cX9_init 375 = .ok (.return_, 1) := zdcg 10 zdT_dX9_init_356 rfl
theorem zdT_dX9_grows_0 : zdch cX9_grows [(0, (.iload_n 2, 1)), (1, (.ifCond .ne 72, 3)), (4, (.iconst 0, 1)), (5, (.istore 4, 2)), (7, (.iload 4, 2)), (9, (.bipush 6, 2)), (11, (.if_icmp .ge 41, 3)), (14, (.aload_n 0, 1)), (15, (.getfield 7, 3)), (18, (.bipush 6, 2)), (20, (.aload_n 0, 1)), (21, (.getfield 153, 3)), (24, (.imul, 1)), (25, (.iload 4, 2)), (27, (.iadd, 1)), (28, (.iload 4, 2)), (30, (.iload_n 1, 1)), (31, (.if_icmp .ge 13, 3)), (34, (.aload_n 0, 1)), (35, (.getfield 35, 3)), (38, (.iload 4, 2)), (40, (.iaload, 1)), (41, (.goto 4, 3)), (44, (.iconst 0, 1)), (45, (.iastore, 1))] = true := by decide +kernel
theorem dX9_grows_0 : decode cX9_grows 0 = .ok (.iload_n 2, 1) := zdcg 0 zdT_dX9_grows_0 rfl
theorem dX9_grows_1 : decode cX9_grows 1 = .ok (.ifCond .ne 72, 3) := zdcg 1 zdT_dX9_grows_0 rfl
theorem dX9_grows_4 : decode cX9_grows 4 = .ok (.iconst 0, 1) := zdcg 2 zdT_dX9_grows_0 rfl
theorem dX9_grows_5 : decode cX9_grows 5 = .ok (.istore 4, 2) := zdcg 3 zdT_dX9_grows_0 rfl
theorem dX9_grows_7 : decode cX9_grows 7 = .ok (.iload 4, 2) := zdcg 4 zdT_dX9_grows_0 rfl
theorem dX9_grows_9 : decode cX9_grows 9 = .ok (.bipush 6, 2) := zdcg 5 zdT_dX9_grows_0 rfl
theorem dX9_grows_11 : decode cX9_grows 11 = .ok (.if_icmp .ge 41, 3) := zdcg 6 zdT_dX9_grows_0 rfl
theorem dX9_grows_14 : decode cX9_grows 14 = .ok (.aload_n 0, 1) := zdcg 7 zdT_dX9_grows_0 rfl
theorem dX9_grows_15 : decode cX9_grows 15 = .ok (.getfield 7, 3) := zdcg 8 zdT_dX9_grows_0 rfl
theorem dX9_grows_18 : decode cX9_grows 18 = .ok (.bipush 6, 2) := zdcg 9 zdT_dX9_grows_0 rfl
theorem dX9_grows_20 : decode cX9_grows 20 = .ok (.aload_n 0, 1) := zdcg 10 zdT_dX9_grows_0 rfl
theorem dX9_grows_21 : decode cX9_grows 21 = .ok (.getfield 153, 3) := zdcg 11 zdT_dX9_grows_0 rfl
theorem dX9_grows_24 : decode cX9_grows 24 = .ok (.imul, 1) := zdcg 12 zdT_dX9_grows_0 rfl
theorem dX9_grows_25 : decode cX9_grows 25 = .ok (.iload 4, 2) := zdcg 13 zdT_dX9_grows_0 rfl
theorem dX9_grows_27 : decode cX9_grows 27 = .ok (.iadd, 1) := zdcg 14 zdT_dX9_grows_0 rfl
theorem dX9_grows_28 : decode cX9_grows 28 = .ok (.iload 4, 2) := zdcg 15 zdT_dX9_grows_0 rfl
theorem dX9_grows_30 : decode cX9_grows 30 = .ok (.iload_n 1, 1) := zdcg 16 zdT_dX9_grows_0 rfl
theorem dX9_grows_31 : decode cX9_grows 31 = .ok (.if_icmp .ge 13, 3) := zdcg 17 zdT_dX9_grows_0 rfl
theorem dX9_grows_34 : decode cX9_grows 34 = .ok (.aload_n 0, 1) := zdcg 18 zdT_dX9_grows_0 rfl
theorem dX9_grows_35 : decode cX9_grows 35 = .ok (.getfield 35, 3) := zdcg 19 zdT_dX9_grows_0 rfl
theorem dX9_grows_38 : decode cX9_grows 38 = .ok (.iload 4, 2) := zdcg 20 zdT_dX9_grows_0 rfl
theorem dX9_grows_40 : decode cX9_grows 40 = .ok (.iaload, 1) := zdcg 21 zdT_dX9_grows_0 rfl
theorem dX9_grows_41 : decode cX9_grows 41 = .ok (.goto 4, 3) := zdcg 22 zdT_dX9_grows_0 rfl
theorem dX9_grows_44 : decode cX9_grows 44 = .ok (.iconst 0, 1) := zdcg 23 zdT_dX9_grows_0 rfl
theorem dX9_grows_45 : decode cX9_grows 45 = .ok (.iastore, 1) := zdcg 24 zdT_dX9_grows_0 rfl
theorem zdT_dX9_grows_46 : zdch cX9_grows [(46, (.iinc 4 1, 3)), (49, (.goto (-42), 3)), (52, (.aload_n 0, 1)), (53, (.getfield 13, 3)), (56, (.aload_n 0, 1)), (57, (.getfield 153, 3)), (60, (.iload_n 1, 1)), (61, (.iastore, 1)), (62, (.aload_n 0, 1)), (63, (.dup, 1)), (64, (.getfield 153, 3)), (67, (.iconst 1, 1)), (68, (.iadd, 1)), (69, (.putfield 153, 3)), (72, (.return_, 1)), (73, (.iload_n 2, 1)), (74, (.iload_n 3, 1)), (75, (.invokestatic 156, 3)), (78, (.istore 4, 2)), (80, (.iload 4, 2)), (82, (.ifCond .le 30, 3)), (85, (.aload_n 0, 1)), (86, (.getfield 35, 3)), (89, (.iload_n 1, 1)), (90, (.iload 4, 2))] = true := by decide +kernel
theorem dX9_grows_46 : decode cX9_grows 46 = .ok (.iinc 4 1, 3) := zdcg 0 zdT_dX9_grows_46 rfl
theorem dX9_grows_49 : decode cX9_grows 49 = .ok (.goto (-42), 3) := zdcg 1 zdT_dX9_grows_46 rfl
theorem dX9_grows_52 : decode cX9_grows 52 = .ok (.aload_n 0, 1) := zdcg 2 zdT_dX9_grows_46 rfl
theorem dX9_grows_53 : decode cX9_grows 53 = .ok (.getfield 13, 3) := zdcg 3 zdT_dX9_grows_46 rfl
theorem dX9_grows_56 : decode cX9_grows 56 = .ok (.aload_n 0, 1) := zdcg 4 zdT_dX9_grows_46 rfl
theorem dX9_grows_57 : decode cX9_grows 57 = .ok (.getfield 153, 3) := zdcg 5 zdT_dX9_grows_46 rfl
theorem dX9_grows_60 : decode cX9_grows 60 = .ok (.iload_n 1, 1) := zdcg 6 zdT_dX9_grows_46 rfl
theorem dX9_grows_61 : decode cX9_grows 61 = .ok (.iastore, 1) := zdcg 7 zdT_dX9_grows_46 rfl
theorem dX9_grows_62 : decode cX9_grows 62 = .ok (.aload_n 0, 1) := zdcg 8 zdT_dX9_grows_46 rfl
theorem dX9_grows_63 : decode cX9_grows 63 = .ok (.dup, 1) := zdcg 9 zdT_dX9_grows_46 rfl
theorem dX9_grows_64 : decode cX9_grows 64 = .ok (.getfield 153, 3) := zdcg 10 zdT_dX9_grows_46 rfl
theorem dX9_grows_67 : decode cX9_grows 67 = .ok (.iconst 1, 1) := zdcg 11 zdT_dX9_grows_46 rfl
theorem dX9_grows_68 : decode cX9_grows 68 = .ok (.iadd, 1) := zdcg 12 zdT_dX9_grows_46 rfl
theorem dX9_grows_69 : decode cX9_grows 69 = .ok (.putfield 153, 3) := zdcg 13 zdT_dX9_grows_46 rfl
theorem dX9_grows_72 : decode cX9_grows 72 = .ok (.return_, 1) := zdcg 14 zdT_dX9_grows_46 rfl
theorem dX9_grows_73 : decode cX9_grows 73 = .ok (.iload_n 2, 1) := zdcg 15 zdT_dX9_grows_46 rfl
theorem dX9_grows_74 : decode cX9_grows 74 = .ok (.iload_n 3, 1) := zdcg 16 zdT_dX9_grows_46 rfl
theorem dX9_grows_75 : decode cX9_grows 75 = .ok (.invokestatic 156, 3) := zdcg 17 zdT_dX9_grows_46 rfl
theorem dX9_grows_78 : decode cX9_grows 78 = .ok (.istore 4, 2) := zdcg 18 zdT_dX9_grows_46 rfl
theorem dX9_grows_80 : decode cX9_grows 80 = .ok (.iload 4, 2) := zdcg 19 zdT_dX9_grows_46 rfl
theorem dX9_grows_82 : decode cX9_grows 82 = .ok (.ifCond .le 30, 3) := zdcg 20 zdT_dX9_grows_46 rfl
theorem dX9_grows_85 : decode cX9_grows 85 = .ok (.aload_n 0, 1) := zdcg 21 zdT_dX9_grows_46 rfl
theorem dX9_grows_86 : decode cX9_grows 86 = .ok (.getfield 35, 3) := zdcg 22 zdT_dX9_grows_46 rfl
theorem dX9_grows_89 : decode cX9_grows 89 = .ok (.iload_n 1, 1) := zdcg 23 zdT_dX9_grows_46 rfl
theorem dX9_grows_90 : decode cX9_grows 90 = .ok (.iload 4, 2) := zdcg 24 zdT_dX9_grows_46 rfl
theorem zdT_dX9_grows_92 : zdch cX9_grows [(92, (.iastore, 1)), (93, (.aload_n 0, 1)), (94, (.iload_n 1, 1)), (95, (.iconst 1, 1)), (96, (.iadd, 1)), (97, (.iload_n 2, 1)), (98, (.iload 4, 2)), (100, (.isub, 1)), (101, (.iload 4, 2)), (103, (.invokevirtual 162, 3)), (106, (.iinc 4 (-1), 3)), (109, (.goto (-29), 3)), (112, (.return_, 1))] = true := by decide +kernel
theorem dX9_grows_92 : decode cX9_grows 92 = .ok (.iastore, 1) := zdcg 0 zdT_dX9_grows_92 rfl
theorem dX9_grows_93 : decode cX9_grows 93 = .ok (.aload_n 0, 1) := zdcg 1 zdT_dX9_grows_92 rfl
theorem dX9_grows_94 : decode cX9_grows 94 = .ok (.iload_n 1, 1) := zdcg 2 zdT_dX9_grows_92 rfl
theorem dX9_grows_95 : decode cX9_grows 95 = .ok (.iconst 1, 1) := zdcg 3 zdT_dX9_grows_92 rfl
theorem dX9_grows_96 : decode cX9_grows 96 = .ok (.iadd, 1) := zdcg 4 zdT_dX9_grows_92 rfl
theorem dX9_grows_97 : decode cX9_grows 97 = .ok (.iload_n 2, 1) := zdcg 5 zdT_dX9_grows_92 rfl
theorem dX9_grows_98 : decode cX9_grows 98 = .ok (.iload 4, 2) := zdcg 6 zdT_dX9_grows_92 rfl
theorem dX9_grows_100 : decode cX9_grows 100 = .ok (.isub, 1) := zdcg 7 zdT_dX9_grows_92 rfl
theorem dX9_grows_101 : decode cX9_grows 101 = .ok (.iload 4, 2) := zdcg 8 zdT_dX9_grows_92 rfl
theorem dX9_grows_103 : decode cX9_grows 103 = .ok (.invokevirtual 162, 3) := zdcg 9 zdT_dX9_grows_92 rfl
theorem dX9_grows_106 : decode cX9_grows 106 = .ok (.iinc 4 (-1), 3) := zdcg 10 zdT_dX9_grows_92 rfl
theorem dX9_grows_109 : decode cX9_grows 109 = .ok (.goto (-29), 3) := zdcg 11 zdT_dX9_grows_92 rfl
theorem dX9_grows_112 : decode cX9_grows 112 = .ok (.return_, 1) := zdcg 12 zdT_dX9_grows_92 rfl
theorem zdT_dX9_partOf_0 : zdch cX9_partOf [(0, (.iload_n 2, 1)), (1, (.bipush 6, 2)), (3, (.if_icmp .ge 17, 3)), (6, (.aload_n 0, 1)), (7, (.getfield 7, 3)), (10, (.bipush 6, 2)), (12, (.iload_n 1, 1)), (13, (.imul, 1)), (14, (.iload_n 2, 1)), (15, (.iadd, 1)), (16, (.iaload, 1)), (17, (.goto 4, 3)), (20, (.iconst 0, 1)), (21, (.ireturn, 1))] = true := by decide +kernel
theorem dX9_partOf_0 : decode cX9_partOf 0 = .ok (.iload_n 2, 1) := zdcg 0 zdT_dX9_partOf_0 rfl
theorem dX9_partOf_1 : decode cX9_partOf 1 = .ok (.bipush 6, 2) := zdcg 1 zdT_dX9_partOf_0 rfl
theorem dX9_partOf_3 : decode cX9_partOf 3 = .ok (.if_icmp .ge 17, 3) := zdcg 2 zdT_dX9_partOf_0 rfl
theorem dX9_partOf_6 : decode cX9_partOf 6 = .ok (.aload_n 0, 1) := zdcg 3 zdT_dX9_partOf_0 rfl
theorem dX9_partOf_7 : decode cX9_partOf 7 = .ok (.getfield 7, 3) := zdcg 4 zdT_dX9_partOf_0 rfl
theorem dX9_partOf_10 : decode cX9_partOf 10 = .ok (.bipush 6, 2) := zdcg 5 zdT_dX9_partOf_0 rfl
theorem dX9_partOf_12 : decode cX9_partOf 12 = .ok (.iload_n 1, 1) := zdcg 6 zdT_dX9_partOf_0 rfl
theorem dX9_partOf_13 : decode cX9_partOf 13 = .ok (.imul, 1) := zdcg 7 zdT_dX9_partOf_0 rfl
theorem dX9_partOf_14 : decode cX9_partOf 14 = .ok (.iload_n 2, 1) := zdcg 8 zdT_dX9_partOf_0 rfl
theorem dX9_partOf_15 : decode cX9_partOf 15 = .ok (.iadd, 1) := zdcg 9 zdT_dX9_partOf_0 rfl
theorem dX9_partOf_16 : decode cX9_partOf 16 = .ok (.iaload, 1) := zdcg 10 zdT_dX9_partOf_0 rfl
theorem dX9_partOf_17 : decode cX9_partOf 17 = .ok (.goto 4, 3) := zdcg 11 zdT_dX9_partOf_0 rfl
theorem dX9_partOf_20 : decode cX9_partOf 20 = .ok (.iconst 0, 1) := zdcg 12 zdT_dX9_partOf_0 rfl
theorem dX9_partOf_21 : decode cX9_partOf 21 = .ok (.ireturn, 1) := zdcg 13 zdT_dX9_partOf_0 rfl
theorem zdT_dX9_gcd_0 : zdch cX9_gcd [(0, (.iload_n 0, 1)), (1, (.istore_n 2, 1)), (2, (.iload_n 1, 1)), (3, (.istore_n 3, 1)), (4, (.iload_n 3, 1)), (5, (.ifCond .eq 16, 3)), (8, (.iload_n 2, 1)), (9, (.iload_n 3, 1)), (10, (.irem, 1)), (11, (.istore 4, 2)), (13, (.iload_n 3, 1)), (14, (.istore_n 2, 1)), (15, (.iload 4, 2)), (17, (.istore_n 3, 1)), (18, (.goto (-14), 3)), (21, (.iload_n 2, 1)), (22, (.ireturn, 1))] = true := by decide +kernel
theorem dX9_gcd_0 : decode cX9_gcd 0 = .ok (.iload_n 0, 1) := zdcg 0 zdT_dX9_gcd_0 rfl
theorem dX9_gcd_1 : decode cX9_gcd 1 = .ok (.istore_n 2, 1) := zdcg 1 zdT_dX9_gcd_0 rfl
theorem dX9_gcd_2 : decode cX9_gcd 2 = .ok (.iload_n 1, 1) := zdcg 2 zdT_dX9_gcd_0 rfl
theorem dX9_gcd_3 : decode cX9_gcd 3 = .ok (.istore_n 3, 1) := zdcg 3 zdT_dX9_gcd_0 rfl
theorem dX9_gcd_4 : decode cX9_gcd 4 = .ok (.iload_n 3, 1) := zdcg 4 zdT_dX9_gcd_0 rfl
theorem dX9_gcd_5 : decode cX9_gcd 5 = .ok (.ifCond .eq 16, 3) := zdcg 5 zdT_dX9_gcd_0 rfl
theorem dX9_gcd_8 : decode cX9_gcd 8 = .ok (.iload_n 2, 1) := zdcg 6 zdT_dX9_gcd_0 rfl
theorem dX9_gcd_9 : decode cX9_gcd 9 = .ok (.iload_n 3, 1) := zdcg 7 zdT_dX9_gcd_0 rfl
theorem dX9_gcd_10 : decode cX9_gcd 10 = .ok (.irem, 1) := zdcg 8 zdT_dX9_gcd_0 rfl
theorem dX9_gcd_11 : decode cX9_gcd 11 = .ok (.istore 4, 2) := zdcg 9 zdT_dX9_gcd_0 rfl
theorem dX9_gcd_13 : decode cX9_gcd 13 = .ok (.iload_n 3, 1) := zdcg 10 zdT_dX9_gcd_0 rfl
theorem dX9_gcd_14 : decode cX9_gcd 14 = .ok (.istore_n 2, 1) := zdcg 11 zdT_dX9_gcd_0 rfl
theorem dX9_gcd_15 : decode cX9_gcd 15 = .ok (.iload 4, 2) := zdcg 12 zdT_dX9_gcd_0 rfl
theorem dX9_gcd_17 : decode cX9_gcd 17 = .ok (.istore_n 3, 1) := zdcg 13 zdT_dX9_gcd_0 rfl
theorem dX9_gcd_18 : decode cX9_gcd 18 = .ok (.goto (-14), 3) := zdcg 14 zdT_dX9_gcd_0 rfl
theorem dX9_gcd_21 : decode cX9_gcd 21 = .ok (.iload_n 2, 1) := zdcg 15 zdT_dX9_gcd_0 rfl
theorem dX9_gcd_22 : decode cX9_gcd 22 = .ok (.ireturn, 1) := zdcg 16 zdT_dX9_gcd_0 rfl
theorem zdT_dX9_classes_0 : zdch cX9_classes [(0, (.aload_n 0, 1)), (1, (.iconst 1, 1)), (2, (.putfield 166, 3)), (5, (.iconst 2, 1)), (6, (.istore_n 1, 1)), (7, (.iload_n 1, 1)), (8, (.aload_n 0, 1)), (9, (.getfield 169, 3)), (12, (.if_icmp .gt 19, 3)), (15, (.aload_n 0, 1)), (16, (.dup, 1)), (17, (.getfield 166, 3)), (20, (.iload_n 1, 1)), (21, (.imul, 1)), (22, (.putfield 166, 3)), (25, (.iinc 1 1, 3)), (28, (.goto (-21), 3)), (31, (.aload_n 0, 1)), (32, (.iconst 0, 1)), (33, (.putfield 172, 3)), (36, (.iconst 0, 1)), (37, (.istore_n 1, 1)), (38, (.iload_n 1, 1)), (39, (.aload_n 0, 1)), (40, (.getfield 153, 3))] = true := by decide +kernel
theorem dX9_classes_0 : decode cX9_classes 0 = .ok (.aload_n 0, 1) := zdcg 0 zdT_dX9_classes_0 rfl
theorem dX9_classes_1 : decode cX9_classes 1 = .ok (.iconst 1, 1) := zdcg 1 zdT_dX9_classes_0 rfl
theorem dX9_classes_2 : decode cX9_classes 2 = .ok (.putfield 166, 3) := zdcg 2 zdT_dX9_classes_0 rfl
theorem dX9_classes_5 : decode cX9_classes 5 = .ok (.iconst 2, 1) := zdcg 3 zdT_dX9_classes_0 rfl
theorem dX9_classes_6 : decode cX9_classes 6 = .ok (.istore_n 1, 1) := zdcg 4 zdT_dX9_classes_0 rfl
theorem dX9_classes_7 : decode cX9_classes 7 = .ok (.iload_n 1, 1) := zdcg 5 zdT_dX9_classes_0 rfl
theorem dX9_classes_8 : decode cX9_classes 8 = .ok (.aload_n 0, 1) := zdcg 6 zdT_dX9_classes_0 rfl
theorem dX9_classes_9 : decode cX9_classes 9 = .ok (.getfield 169, 3) := zdcg 7 zdT_dX9_classes_0 rfl
theorem dX9_classes_12 : decode cX9_classes 12 = .ok (.if_icmp .gt 19, 3) := zdcg 8 zdT_dX9_classes_0 rfl
theorem dX9_classes_15 : decode cX9_classes 15 = .ok (.aload_n 0, 1) := zdcg 9 zdT_dX9_classes_0 rfl
theorem dX9_classes_16 : decode cX9_classes 16 = .ok (.dup, 1) := zdcg 10 zdT_dX9_classes_0 rfl
theorem dX9_classes_17 : decode cX9_classes 17 = .ok (.getfield 166, 3) := zdcg 11 zdT_dX9_classes_0 rfl
theorem dX9_classes_20 : decode cX9_classes 20 = .ok (.iload_n 1, 1) := zdcg 12 zdT_dX9_classes_0 rfl
theorem dX9_classes_21 : decode cX9_classes 21 = .ok (.imul, 1) := zdcg 13 zdT_dX9_classes_0 rfl
theorem dX9_classes_22 : decode cX9_classes 22 = .ok (.putfield 166, 3) := zdcg 14 zdT_dX9_classes_0 rfl
theorem dX9_classes_25 : decode cX9_classes 25 = .ok (.iinc 1 1, 3) := zdcg 15 zdT_dX9_classes_0 rfl
theorem dX9_classes_28 : decode cX9_classes 28 = .ok (.goto (-21), 3) := zdcg 16 zdT_dX9_classes_0 rfl
theorem dX9_classes_31 : decode cX9_classes 31 = .ok (.aload_n 0, 1) := zdcg 17 zdT_dX9_classes_0 rfl
theorem dX9_classes_32 : decode cX9_classes 32 = .ok (.iconst 0, 1) := zdcg 18 zdT_dX9_classes_0 rfl
theorem dX9_classes_33 : decode cX9_classes 33 = .ok (.putfield 172, 3) := zdcg 19 zdT_dX9_classes_0 rfl
theorem dX9_classes_36 : decode cX9_classes 36 = .ok (.iconst 0, 1) := zdcg 20 zdT_dX9_classes_0 rfl
theorem dX9_classes_37 : decode cX9_classes 37 = .ok (.istore_n 1, 1) := zdcg 21 zdT_dX9_classes_0 rfl
theorem dX9_classes_38 : decode cX9_classes 38 = .ok (.iload_n 1, 1) := zdcg 22 zdT_dX9_classes_0 rfl
theorem dX9_classes_39 : decode cX9_classes 39 = .ok (.aload_n 0, 1) := zdcg 23 zdT_dX9_classes_0 rfl
theorem dX9_classes_40 : decode cX9_classes 40 = .ok (.getfield 153, 3) := zdcg 24 zdT_dX9_classes_0 rfl
theorem zdT_dX9_classes_43 : zdch cX9_classes [(43, (.if_icmp .ge 252, 3)), (46, (.iconst 1, 1)), (47, (.istore_n 2, 1)), (48, (.iconst 0, 1)), (49, (.istore_n 3, 1)), (50, (.iconst 0, 1)), (51, (.istore 4, 2)), (53, (.aload_n 0, 1)), (54, (.getfield 19, 3)), (57, (.iload_n 1, 1)), (58, (.iconst 1, 1)), (59, (.iastore, 1)), (60, (.aload_n 0, 1)), (61, (.getfield 26, 3)), (64, (.iload_n 1, 1)), (65, (.iconst 1, 1)), (66, (.bastore, 1)), (67, (.aload_n 0, 1)), (68, (.getfield 29, 3)), (71, (.iload_n 1, 1)), (72, (.iconst 1, 1)), (73, (.iastore, 1)), (74, (.aload_n 0, 1)), (75, (.getfield 22, 3)), (78, (.iload_n 1, 1))] = true := by decide +kernel
theorem dX9_classes_43 : decode cX9_classes 43 = .ok (.if_icmp .ge 252, 3) := zdcg 0 zdT_dX9_classes_43 rfl
theorem dX9_classes_46 : decode cX9_classes 46 = .ok (.iconst 1, 1) := zdcg 1 zdT_dX9_classes_43 rfl
theorem dX9_classes_47 : decode cX9_classes 47 = .ok (.istore_n 2, 1) := zdcg 2 zdT_dX9_classes_43 rfl
theorem dX9_classes_48 : decode cX9_classes 48 = .ok (.iconst 0, 1) := zdcg 3 zdT_dX9_classes_43 rfl
theorem dX9_classes_49 : decode cX9_classes 49 = .ok (.istore_n 3, 1) := zdcg 4 zdT_dX9_classes_43 rfl
theorem dX9_classes_50 : decode cX9_classes 50 = .ok (.iconst 0, 1) := zdcg 5 zdT_dX9_classes_43 rfl
theorem dX9_classes_51 : decode cX9_classes 51 = .ok (.istore 4, 2) := zdcg 6 zdT_dX9_classes_43 rfl
theorem dX9_classes_53 : decode cX9_classes 53 = .ok (.aload_n 0, 1) := zdcg 7 zdT_dX9_classes_43 rfl
theorem dX9_classes_54 : decode cX9_classes 54 = .ok (.getfield 19, 3) := zdcg 8 zdT_dX9_classes_43 rfl
theorem dX9_classes_57 : decode cX9_classes 57 = .ok (.iload_n 1, 1) := zdcg 9 zdT_dX9_classes_43 rfl
theorem dX9_classes_58 : decode cX9_classes 58 = .ok (.iconst 1, 1) := zdcg 10 zdT_dX9_classes_43 rfl
theorem dX9_classes_59 : decode cX9_classes 59 = .ok (.iastore, 1) := zdcg 11 zdT_dX9_classes_43 rfl
theorem dX9_classes_60 : decode cX9_classes 60 = .ok (.aload_n 0, 1) := zdcg 12 zdT_dX9_classes_43 rfl
theorem dX9_classes_61 : decode cX9_classes 61 = .ok (.getfield 26, 3) := zdcg 13 zdT_dX9_classes_43 rfl
theorem dX9_classes_64 : decode cX9_classes 64 = .ok (.iload_n 1, 1) := zdcg 14 zdT_dX9_classes_43 rfl
theorem dX9_classes_65 : decode cX9_classes 65 = .ok (.iconst 1, 1) := zdcg 15 zdT_dX9_classes_43 rfl
theorem dX9_classes_66 : decode cX9_classes 66 = .ok (.bastore, 1) := zdcg 16 zdT_dX9_classes_43 rfl
theorem dX9_classes_67 : decode cX9_classes 67 = .ok (.aload_n 0, 1) := zdcg 17 zdT_dX9_classes_43 rfl
theorem dX9_classes_68 : decode cX9_classes 68 = .ok (.getfield 29, 3) := zdcg 18 zdT_dX9_classes_43 rfl
theorem dX9_classes_71 : decode cX9_classes 71 = .ok (.iload_n 1, 1) := zdcg 19 zdT_dX9_classes_43 rfl
theorem dX9_classes_72 : decode cX9_classes 72 = .ok (.iconst 1, 1) := zdcg 20 zdT_dX9_classes_43 rfl
theorem dX9_classes_73 : decode cX9_classes 73 = .ok (.iastore, 1) := zdcg 21 zdT_dX9_classes_43 rfl
theorem dX9_classes_74 : decode cX9_classes 74 = .ok (.aload_n 0, 1) := zdcg 22 zdT_dX9_classes_43 rfl
theorem dX9_classes_75 : decode cX9_classes 75 = .ok (.getfield 22, 3) := zdcg 23 zdT_dX9_classes_43 rfl
theorem dX9_classes_78 : decode cX9_classes 78 = .ok (.iload_n 1, 1) := zdcg 24 zdT_dX9_classes_43 rfl
theorem zdT_dX9_classes_79 : zdch cX9_classes [(79, (.iconst 1, 1)), (80, (.bastore, 1)), (81, (.iconst 0, 1)), (82, (.istore 5, 2)), (84, (.iload 5, 2)), (86, (.aload_n 0, 1)), (87, (.getfield 13, 3)), (90, (.iload_n 1, 1)), (91, (.iaload, 1)), (92, (.if_icmp .ge 124, 3)), (95, (.aload_n 0, 1)), (96, (.iload_n 1, 1)), (97, (.iload 5, 2)), (99, (.invokevirtual 175, 3)), (102, (.istore 6, 2)), (104, (.iload 5, 2)), (106, (.ifCond .le 23, 3)), (109, (.aload_n 0, 1)), (110, (.iload_n 1, 1)), (111, (.iload 5, 2)), (113, (.iconst 1, 1)), (114, (.isub, 1)), (115, (.invokevirtual 175, 3)), (118, (.iload 6, 2)), (120, (.if_icmp .ne 9, 3))] = true := by decide +kernel
theorem dX9_classes_79 : decode cX9_classes 79 = .ok (.iconst 1, 1) := zdcg 0 zdT_dX9_classes_79 rfl
theorem dX9_classes_80 : decode cX9_classes 80 = .ok (.bastore, 1) := zdcg 1 zdT_dX9_classes_79 rfl
theorem dX9_classes_81 : decode cX9_classes 81 = .ok (.iconst 0, 1) := zdcg 2 zdT_dX9_classes_79 rfl
theorem dX9_classes_82 : decode cX9_classes 82 = .ok (.istore 5, 2) := zdcg 3 zdT_dX9_classes_79 rfl
theorem dX9_classes_84 : decode cX9_classes 84 = .ok (.iload 5, 2) := zdcg 4 zdT_dX9_classes_79 rfl
theorem dX9_classes_86 : decode cX9_classes 86 = .ok (.aload_n 0, 1) := zdcg 5 zdT_dX9_classes_79 rfl
theorem dX9_classes_87 : decode cX9_classes 87 = .ok (.getfield 13, 3) := zdcg 6 zdT_dX9_classes_79 rfl
theorem dX9_classes_90 : decode cX9_classes 90 = .ok (.iload_n 1, 1) := zdcg 7 zdT_dX9_classes_79 rfl
theorem dX9_classes_91 : decode cX9_classes 91 = .ok (.iaload, 1) := zdcg 8 zdT_dX9_classes_79 rfl
theorem dX9_classes_92 : decode cX9_classes 92 = .ok (.if_icmp .ge 124, 3) := zdcg 9 zdT_dX9_classes_79 rfl
theorem dX9_classes_95 : decode cX9_classes 95 = .ok (.aload_n 0, 1) := zdcg 10 zdT_dX9_classes_79 rfl
theorem dX9_classes_96 : decode cX9_classes 96 = .ok (.iload_n 1, 1) := zdcg 11 zdT_dX9_classes_79 rfl
theorem dX9_classes_97 : decode cX9_classes 97 = .ok (.iload 5, 2) := zdcg 12 zdT_dX9_classes_79 rfl
theorem dX9_classes_99 : decode cX9_classes 99 = .ok (.invokevirtual 175, 3) := zdcg 13 zdT_dX9_classes_79 rfl
theorem dX9_classes_102 : decode cX9_classes 102 = .ok (.istore 6, 2) := zdcg 14 zdT_dX9_classes_79 rfl
theorem dX9_classes_104 : decode cX9_classes 104 = .ok (.iload 5, 2) := zdcg 15 zdT_dX9_classes_79 rfl
theorem dX9_classes_106 : decode cX9_classes 106 = .ok (.ifCond .le 23, 3) := zdcg 16 zdT_dX9_classes_79 rfl
theorem dX9_classes_109 : decode cX9_classes 109 = .ok (.aload_n 0, 1) := zdcg 17 zdT_dX9_classes_79 rfl
theorem dX9_classes_110 : decode cX9_classes 110 = .ok (.iload_n 1, 1) := zdcg 18 zdT_dX9_classes_79 rfl
theorem dX9_classes_111 : decode cX9_classes 111 = .ok (.iload 5, 2) := zdcg 19 zdT_dX9_classes_79 rfl
theorem dX9_classes_113 : decode cX9_classes 113 = .ok (.iconst 1, 1) := zdcg 20 zdT_dX9_classes_79 rfl
theorem dX9_classes_114 : decode cX9_classes 114 = .ok (.isub, 1) := zdcg 21 zdT_dX9_classes_79 rfl
theorem dX9_classes_115 : decode cX9_classes 115 = .ok (.invokevirtual 175, 3) := zdcg 22 zdT_dX9_classes_79 rfl
theorem dX9_classes_118 : decode cX9_classes 118 = .ok (.iload 6, 2) := zdcg 23 zdT_dX9_classes_79 rfl
theorem dX9_classes_120 : decode cX9_classes 120 = .ok (.if_icmp .ne 9, 3) := zdcg 24 zdT_dX9_classes_79 rfl
theorem zdT_dX9_classes_123 : zdch cX9_classes [(123, (.iload_n 3, 1)), (124, (.iconst 1, 1)), (125, (.iadd, 1)), (126, (.goto 4, 3)), (129, (.iconst 1, 1)), (130, (.istore_n 3, 1)), (131, (.iload 4, 2)), (133, (.iload_n 3, 1)), (134, (.invokestatic 178, 3)), (137, (.istore 4, 2)), (139, (.iload_n 2, 1)), (140, (.iload 6, 2)), (142, (.iload_n 3, 1)), (143, (.imul, 1)), (144, (.imul, 1)), (145, (.istore_n 2, 1)), (146, (.aload_n 0, 1)), (147, (.getfield 19, 3)), (150, (.iload_n 1, 1)), (151, (.aload_n 0, 1)), (152, (.getfield 19, 3)), (155, (.iload_n 1, 1)), (156, (.iaload, 1)), (157, (.aload_n 0, 1)), (158, (.getfield 19, 3))] = true := by decide +kernel
theorem dX9_classes_123 : decode cX9_classes 123 = .ok (.iload_n 3, 1) := zdcg 0 zdT_dX9_classes_123 rfl
theorem dX9_classes_124 : decode cX9_classes 124 = .ok (.iconst 1, 1) := zdcg 1 zdT_dX9_classes_123 rfl
theorem dX9_classes_125 : decode cX9_classes 125 = .ok (.iadd, 1) := zdcg 2 zdT_dX9_classes_123 rfl
theorem dX9_classes_126 : decode cX9_classes 126 = .ok (.goto 4, 3) := zdcg 3 zdT_dX9_classes_123 rfl
theorem dX9_classes_129 : decode cX9_classes 129 = .ok (.iconst 1, 1) := zdcg 4 zdT_dX9_classes_123 rfl
theorem dX9_classes_130 : decode cX9_classes 130 = .ok (.istore_n 3, 1) := zdcg 5 zdT_dX9_classes_123 rfl
theorem dX9_classes_131 : decode cX9_classes 131 = .ok (.iload 4, 2) := zdcg 6 zdT_dX9_classes_123 rfl
theorem dX9_classes_133 : decode cX9_classes 133 = .ok (.iload_n 3, 1) := zdcg 7 zdT_dX9_classes_123 rfl
theorem dX9_classes_134 : decode cX9_classes 134 = .ok (.invokestatic 178, 3) := zdcg 8 zdT_dX9_classes_123 rfl
theorem dX9_classes_137 : decode cX9_classes 137 = .ok (.istore 4, 2) := zdcg 9 zdT_dX9_classes_123 rfl
theorem dX9_classes_139 : decode cX9_classes 139 = .ok (.iload_n 2, 1) := zdcg 10 zdT_dX9_classes_123 rfl
theorem dX9_classes_140 : decode cX9_classes 140 = .ok (.iload 6, 2) := zdcg 11 zdT_dX9_classes_123 rfl
theorem dX9_classes_142 : decode cX9_classes 142 = .ok (.iload_n 3, 1) := zdcg 12 zdT_dX9_classes_123 rfl
theorem dX9_classes_143 : decode cX9_classes 143 = .ok (.imul, 1) := zdcg 13 zdT_dX9_classes_123 rfl
theorem dX9_classes_144 : decode cX9_classes 144 = .ok (.imul, 1) := zdcg 14 zdT_dX9_classes_123 rfl
theorem dX9_classes_145 : decode cX9_classes 145 = .ok (.istore_n 2, 1) := zdcg 15 zdT_dX9_classes_123 rfl
theorem dX9_classes_146 : decode cX9_classes 146 = .ok (.aload_n 0, 1) := zdcg 16 zdT_dX9_classes_123 rfl
theorem dX9_classes_147 : decode cX9_classes 147 = .ok (.getfield 19, 3) := zdcg 17 zdT_dX9_classes_123 rfl
theorem dX9_classes_150 : decode cX9_classes 150 = .ok (.iload_n 1, 1) := zdcg 18 zdT_dX9_classes_123 rfl
theorem dX9_classes_151 : decode cX9_classes 151 = .ok (.aload_n 0, 1) := zdcg 19 zdT_dX9_classes_123 rfl
theorem dX9_classes_152 : decode cX9_classes 152 = .ok (.getfield 19, 3) := zdcg 20 zdT_dX9_classes_123 rfl
theorem dX9_classes_155 : decode cX9_classes 155 = .ok (.iload_n 1, 1) := zdcg 21 zdT_dX9_classes_123 rfl
theorem dX9_classes_156 : decode cX9_classes 156 = .ok (.iaload, 1) := zdcg 22 zdT_dX9_classes_123 rfl
theorem dX9_classes_157 : decode cX9_classes 157 = .ok (.aload_n 0, 1) := zdcg 23 zdT_dX9_classes_123 rfl
theorem dX9_classes_158 : decode cX9_classes 158 = .ok (.getfield 19, 3) := zdcg 24 zdT_dX9_classes_123 rfl
theorem zdT_dX9_classes_161 : zdch cX9_classes [(161, (.iload_n 1, 1)), (162, (.iaload, 1)), (163, (.iload 6, 2)), (165, (.invokestatic 181, 3)), (168, (.idiv, 1)), (169, (.iload 6, 2)), (171, (.imul, 1)), (172, (.iastore, 1)), (173, (.iload 6, 2)), (175, (.aload_n 0, 1)), (176, (.getfield 184, 3)), (179, (.irem, 1)), (180, (.ifCond .ne 10, 3)), (183, (.aload_n 0, 1)), (184, (.getfield 26, 3)), (187, (.iload_n 1, 1)), (188, (.iconst 0, 1)), (189, (.bastore, 1)), (190, (.iload 6, 2)), (192, (.iconst 2, 1)), (193, (.irem, 1)), (194, (.ifCond .ne 16, 3)), (197, (.aload_n 0, 1)), (198, (.getfield 29, 3)), (201, (.iload_n 1, 1))] = true := by decide +kernel
theorem dX9_classes_161 : decode cX9_classes 161 = .ok (.iload_n 1, 1) := zdcg 0 zdT_dX9_classes_161 rfl
theorem dX9_classes_162 : decode cX9_classes 162 = .ok (.iaload, 1) := zdcg 1 zdT_dX9_classes_161 rfl
theorem dX9_classes_163 : decode cX9_classes 163 = .ok (.iload 6, 2) := zdcg 2 zdT_dX9_classes_161 rfl
theorem dX9_classes_165 : decode cX9_classes 165 = .ok (.invokestatic 181, 3) := zdcg 3 zdT_dX9_classes_161 rfl
theorem dX9_classes_168 : decode cX9_classes 168 = .ok (.idiv, 1) := zdcg 4 zdT_dX9_classes_161 rfl
theorem dX9_classes_169 : decode cX9_classes 169 = .ok (.iload 6, 2) := zdcg 5 zdT_dX9_classes_161 rfl
theorem dX9_classes_171 : decode cX9_classes 171 = .ok (.imul, 1) := zdcg 6 zdT_dX9_classes_161 rfl
theorem dX9_classes_172 : decode cX9_classes 172 = .ok (.iastore, 1) := zdcg 7 zdT_dX9_classes_161 rfl
theorem dX9_classes_173 : decode cX9_classes 173 = .ok (.iload 6, 2) := zdcg 8 zdT_dX9_classes_161 rfl
theorem dX9_classes_175 : decode cX9_classes 175 = .ok (.aload_n 0, 1) := zdcg 9 zdT_dX9_classes_161 rfl
theorem dX9_classes_176 : decode cX9_classes 176 = .ok (.getfield 184, 3) := zdcg 10 zdT_dX9_classes_161 rfl
theorem dX9_classes_179 : decode cX9_classes 179 = .ok (.irem, 1) := zdcg 11 zdT_dX9_classes_161 rfl
theorem dX9_classes_180 : decode cX9_classes 180 = .ok (.ifCond .ne 10, 3) := zdcg 12 zdT_dX9_classes_161 rfl
theorem dX9_classes_183 : decode cX9_classes 183 = .ok (.aload_n 0, 1) := zdcg 13 zdT_dX9_classes_161 rfl
theorem dX9_classes_184 : decode cX9_classes 184 = .ok (.getfield 26, 3) := zdcg 14 zdT_dX9_classes_161 rfl
theorem dX9_classes_187 : decode cX9_classes 187 = .ok (.iload_n 1, 1) := zdcg 15 zdT_dX9_classes_161 rfl
theorem dX9_classes_188 : decode cX9_classes 188 = .ok (.iconst 0, 1) := zdcg 16 zdT_dX9_classes_161 rfl
theorem dX9_classes_189 : decode cX9_classes 189 = .ok (.bastore, 1) := zdcg 17 zdT_dX9_classes_161 rfl
theorem dX9_classes_190 : decode cX9_classes 190 = .ok (.iload 6, 2) := zdcg 18 zdT_dX9_classes_161 rfl
theorem dX9_classes_192 : decode cX9_classes 192 = .ok (.iconst 2, 1) := zdcg 19 zdT_dX9_classes_161 rfl
theorem dX9_classes_193 : decode cX9_classes 193 = .ok (.irem, 1) := zdcg 20 zdT_dX9_classes_161 rfl
theorem dX9_classes_194 : decode cX9_classes 194 = .ok (.ifCond .ne 16, 3) := zdcg 21 zdT_dX9_classes_161 rfl
theorem dX9_classes_197 : decode cX9_classes 197 = .ok (.aload_n 0, 1) := zdcg 22 zdT_dX9_classes_161 rfl
theorem dX9_classes_198 : decode cX9_classes 198 = .ok (.getfield 29, 3) := zdcg 23 zdT_dX9_classes_161 rfl
theorem dX9_classes_201 : decode cX9_classes 201 = .ok (.iload_n 1, 1) := zdcg 24 zdT_dX9_classes_161 rfl
theorem zdT_dX9_classes_202 : zdch cX9_classes [(202, (.aload_n 0, 1)), (203, (.getfield 29, 3)), (206, (.iload_n 1, 1)), (207, (.iaload, 1)), (208, (.ineg, 1)), (209, (.iastore, 1)), (210, (.iinc 5 1, 3)), (213, (.goto (-129), 3)), (216, (.aload_n 0, 1)), (217, (.getfield 22, 3)), (220, (.iload_n 1, 1)), (221, (.iload 4, 2)), (223, (.aload_n 0, 1)), (224, (.getfield 184, 3)), (227, (.if_icmp .ge 7, 3)), (230, (.iconst 1, 1)), (231, (.goto 4, 3)), (234, (.iconst 0, 1)), (235, (.bastore, 1)), (236, (.aload_n 0, 1)), (237, (.getfield 16, 3)), (240, (.iload_n 1, 1)), (241, (.aload_n 0, 1)), (242, (.getfield 166, 3)), (245, (.iload_n 2, 1))] = true := by decide +kernel
theorem dX9_classes_202 : decode cX9_classes 202 = .ok (.aload_n 0, 1) := zdcg 0 zdT_dX9_classes_202 rfl
theorem dX9_classes_203 : decode cX9_classes 203 = .ok (.getfield 29, 3) := zdcg 1 zdT_dX9_classes_202 rfl
theorem dX9_classes_206 : decode cX9_classes 206 = .ok (.iload_n 1, 1) := zdcg 2 zdT_dX9_classes_202 rfl
theorem dX9_classes_207 : decode cX9_classes 207 = .ok (.iaload, 1) := zdcg 3 zdT_dX9_classes_202 rfl
theorem dX9_classes_208 : decode cX9_classes 208 = .ok (.ineg, 1) := zdcg 4 zdT_dX9_classes_202 rfl
theorem dX9_classes_209 : decode cX9_classes 209 = .ok (.iastore, 1) := zdcg 5 zdT_dX9_classes_202 rfl
theorem dX9_classes_210 : decode cX9_classes 210 = .ok (.iinc 5 1, 3) := zdcg 6 zdT_dX9_classes_202 rfl
theorem dX9_classes_213 : decode cX9_classes 213 = .ok (.goto (-129), 3) := zdcg 7 zdT_dX9_classes_202 rfl
theorem dX9_classes_216 : decode cX9_classes 216 = .ok (.aload_n 0, 1) := zdcg 8 zdT_dX9_classes_202 rfl
theorem dX9_classes_217 : decode cX9_classes 217 = .ok (.getfield 22, 3) := zdcg 9 zdT_dX9_classes_202 rfl
theorem dX9_classes_220 : decode cX9_classes 220 = .ok (.iload_n 1, 1) := zdcg 10 zdT_dX9_classes_202 rfl
theorem dX9_classes_221 : decode cX9_classes 221 = .ok (.iload 4, 2) := zdcg 11 zdT_dX9_classes_202 rfl
theorem dX9_classes_223 : decode cX9_classes 223 = .ok (.aload_n 0, 1) := zdcg 12 zdT_dX9_classes_202 rfl
theorem dX9_classes_224 : decode cX9_classes 224 = .ok (.getfield 184, 3) := zdcg 13 zdT_dX9_classes_202 rfl
theorem dX9_classes_227 : decode cX9_classes 227 = .ok (.if_icmp .ge 7, 3) := zdcg 14 zdT_dX9_classes_202 rfl
theorem dX9_classes_230 : decode cX9_classes 230 = .ok (.iconst 1, 1) := zdcg 15 zdT_dX9_classes_202 rfl
theorem dX9_classes_231 : decode cX9_classes 231 = .ok (.goto 4, 3) := zdcg 16 zdT_dX9_classes_202 rfl
theorem dX9_classes_234 : decode cX9_classes 234 = .ok (.iconst 0, 1) := zdcg 17 zdT_dX9_classes_202 rfl
theorem dX9_classes_235 : decode cX9_classes 235 = .ok (.bastore, 1) := zdcg 18 zdT_dX9_classes_202 rfl
theorem dX9_classes_236 : decode cX9_classes 236 = .ok (.aload_n 0, 1) := zdcg 19 zdT_dX9_classes_202 rfl
theorem dX9_classes_237 : decode cX9_classes 237 = .ok (.getfield 16, 3) := zdcg 20 zdT_dX9_classes_202 rfl
theorem dX9_classes_240 : decode cX9_classes 240 = .ok (.iload_n 1, 1) := zdcg 21 zdT_dX9_classes_202 rfl
theorem dX9_classes_241 : decode cX9_classes 241 = .ok (.aload_n 0, 1) := zdcg 22 zdT_dX9_classes_202 rfl
theorem dX9_classes_242 : decode cX9_classes 242 = .ok (.getfield 166, 3) := zdcg 23 zdT_dX9_classes_202 rfl
theorem dX9_classes_245 : decode cX9_classes 245 = .ok (.iload_n 2, 1) := zdcg 24 zdT_dX9_classes_202 rfl
theorem zdT_dX9_classes_246 : zdch cX9_classes [(246, (.idiv, 1)), (247, (.iastore, 1)), (248, (.aload_n 0, 1)), (249, (.getfield 32, 3)), (252, (.iload_n 1, 1)), (253, (.aload_n 0, 1)), (254, (.getfield 22, 3)), (257, (.iload_n 1, 1)), (258, (.baload, 1)), (259, (.ifCond .eq 10, 3)), (262, (.aload_n 0, 1)), (263, (.getfield 172, 3)), (266, (.goto 4, 3)), (269, (.iconst (-1), 1)), (270, (.iastore, 1)), (271, (.aload_n 0, 1)), (272, (.dup, 1)), (273, (.getfield 172, 3)), (276, (.aload_n 0, 1)), (277, (.getfield 22, 3)), (280, (.iload_n 1, 1)), (281, (.baload, 1)), (282, (.invokestatic 187, 3)), (285, (.iadd, 1)), (286, (.putfield 172, 3))] = true := by decide +kernel
theorem dX9_classes_246 : decode cX9_classes 246 = .ok (.idiv, 1) := zdcg 0 zdT_dX9_classes_246 rfl
theorem dX9_classes_247 : decode cX9_classes 247 = .ok (.iastore, 1) := zdcg 1 zdT_dX9_classes_246 rfl
theorem dX9_classes_248 : decode cX9_classes 248 = .ok (.aload_n 0, 1) := zdcg 2 zdT_dX9_classes_246 rfl
theorem dX9_classes_249 : decode cX9_classes 249 = .ok (.getfield 32, 3) := zdcg 3 zdT_dX9_classes_246 rfl
theorem dX9_classes_252 : decode cX9_classes 252 = .ok (.iload_n 1, 1) := zdcg 4 zdT_dX9_classes_246 rfl
theorem dX9_classes_253 : decode cX9_classes 253 = .ok (.aload_n 0, 1) := zdcg 5 zdT_dX9_classes_246 rfl
theorem dX9_classes_254 : decode cX9_classes 254 = .ok (.getfield 22, 3) := zdcg 6 zdT_dX9_classes_246 rfl
theorem dX9_classes_257 : decode cX9_classes 257 = .ok (.iload_n 1, 1) := zdcg 7 zdT_dX9_classes_246 rfl
theorem dX9_classes_258 : decode cX9_classes 258 = .ok (.baload, 1) := zdcg 8 zdT_dX9_classes_246 rfl
theorem dX9_classes_259 : decode cX9_classes 259 = .ok (.ifCond .eq 10, 3) := zdcg 9 zdT_dX9_classes_246 rfl
theorem dX9_classes_262 : decode cX9_classes 262 = .ok (.aload_n 0, 1) := zdcg 10 zdT_dX9_classes_246 rfl
theorem dX9_classes_263 : decode cX9_classes 263 = .ok (.getfield 172, 3) := zdcg 11 zdT_dX9_classes_246 rfl
theorem dX9_classes_266 : decode cX9_classes 266 = .ok (.goto 4, 3) := zdcg 12 zdT_dX9_classes_246 rfl
theorem dX9_classes_269 : decode cX9_classes 269 = .ok (.iconst (-1), 1) := zdcg 13 zdT_dX9_classes_246 rfl
theorem dX9_classes_270 : decode cX9_classes 270 = .ok (.iastore, 1) := zdcg 14 zdT_dX9_classes_246 rfl
theorem dX9_classes_271 : decode cX9_classes 271 = .ok (.aload_n 0, 1) := zdcg 15 zdT_dX9_classes_246 rfl
theorem dX9_classes_272 : decode cX9_classes 272 = .ok (.dup, 1) := zdcg 16 zdT_dX9_classes_246 rfl
theorem dX9_classes_273 : decode cX9_classes 273 = .ok (.getfield 172, 3) := zdcg 17 zdT_dX9_classes_246 rfl
theorem dX9_classes_276 : decode cX9_classes 276 = .ok (.aload_n 0, 1) := zdcg 18 zdT_dX9_classes_246 rfl
theorem dX9_classes_277 : decode cX9_classes 277 = .ok (.getfield 22, 3) := zdcg 19 zdT_dX9_classes_246 rfl
theorem dX9_classes_280 : decode cX9_classes 280 = .ok (.iload_n 1, 1) := zdcg 20 zdT_dX9_classes_246 rfl
theorem dX9_classes_281 : decode cX9_classes 281 = .ok (.baload, 1) := zdcg 21 zdT_dX9_classes_246 rfl
theorem dX9_classes_282 : decode cX9_classes 282 = .ok (.invokestatic 187, 3) := zdcg 22 zdT_dX9_classes_246 rfl
theorem dX9_classes_285 : decode cX9_classes 285 = .ok (.iadd, 1) := zdcg 23 zdT_dX9_classes_246 rfl
theorem dX9_classes_286 : decode cX9_classes 286 = .ok (.putfield 172, 3) := zdcg 24 zdT_dX9_classes_246 rfl
theorem zdT_dX9_classes_289 : zdch cX9_classes [(289, (.iinc 1 1, 3)), (292, (.goto (-254), 3)), (295, (.return_, 1))] = true := by decide +kernel
theorem dX9_classes_289 : decode cX9_classes 289 = .ok (.iinc 1 1, 3) := zdcg 0 zdT_dX9_classes_289 rfl
theorem dX9_classes_292 : decode cX9_classes 292 = .ok (.goto (-254), 3) := zdcg 1 zdT_dX9_classes_289 rfl
theorem dX9_classes_295 : decode cX9_classes 295 = .ok (.return_, 1) := zdcg 2 zdT_dX9_classes_289 rfl
theorem zdT_dX9_beadsOf_0 : zdch cX9_beadsOf [(0, (.iconst 0, 1)), (1, (.istore_n 2, 1)), (2, (.iconst 0, 1)), (3, (.istore_n 3, 1)), (4, (.iload_n 3, 1)), (5, (.bipush 6, 2)), (7, (.if_icmp .ge 24, 3)), (10, (.iload_n 2, 1)), (11, (.iconst 1, 1)), (12, (.aload_n 0, 1)), (13, (.iload_n 1, 1)), (14, (.iload_n 3, 1)), (15, (.invokevirtual 175, 3)), (18, (.iconst 5, 1)), (19, (.iadd, 1)), (20, (.iload_n 3, 1)), (21, (.isub, 1)), (22, (.ishl, 1)), (23, (.ior, 1)), (24, (.istore_n 2, 1)), (25, (.iinc 3 1, 3)), (28, (.goto (-24), 3)), (31, (.iload_n 2, 1)), (32, (.ireturn, 1))] = true := by decide +kernel
theorem dX9_beadsOf_0 : decode cX9_beadsOf 0 = .ok (.iconst 0, 1) := zdcg 0 zdT_dX9_beadsOf_0 rfl
theorem dX9_beadsOf_1 : decode cX9_beadsOf 1 = .ok (.istore_n 2, 1) := zdcg 1 zdT_dX9_beadsOf_0 rfl
theorem dX9_beadsOf_2 : decode cX9_beadsOf 2 = .ok (.iconst 0, 1) := zdcg 2 zdT_dX9_beadsOf_0 rfl
theorem dX9_beadsOf_3 : decode cX9_beadsOf 3 = .ok (.istore_n 3, 1) := zdcg 3 zdT_dX9_beadsOf_0 rfl
theorem dX9_beadsOf_4 : decode cX9_beadsOf 4 = .ok (.iload_n 3, 1) := zdcg 4 zdT_dX9_beadsOf_0 rfl
theorem dX9_beadsOf_5 : decode cX9_beadsOf 5 = .ok (.bipush 6, 2) := zdcg 5 zdT_dX9_beadsOf_0 rfl
theorem dX9_beadsOf_7 : decode cX9_beadsOf 7 = .ok (.if_icmp .ge 24, 3) := zdcg 6 zdT_dX9_beadsOf_0 rfl
theorem dX9_beadsOf_10 : decode cX9_beadsOf 10 = .ok (.iload_n 2, 1) := zdcg 7 zdT_dX9_beadsOf_0 rfl
theorem dX9_beadsOf_11 : decode cX9_beadsOf 11 = .ok (.iconst 1, 1) := zdcg 8 zdT_dX9_beadsOf_0 rfl
theorem dX9_beadsOf_12 : decode cX9_beadsOf 12 = .ok (.aload_n 0, 1) := zdcg 9 zdT_dX9_beadsOf_0 rfl
theorem dX9_beadsOf_13 : decode cX9_beadsOf 13 = .ok (.iload_n 1, 1) := zdcg 10 zdT_dX9_beadsOf_0 rfl
theorem dX9_beadsOf_14 : decode cX9_beadsOf 14 = .ok (.iload_n 3, 1) := zdcg 11 zdT_dX9_beadsOf_0 rfl
theorem dX9_beadsOf_15 : decode cX9_beadsOf 15 = .ok (.invokevirtual 175, 3) := zdcg 12 zdT_dX9_beadsOf_0 rfl
theorem dX9_beadsOf_18 : decode cX9_beadsOf 18 = .ok (.iconst 5, 1) := zdcg 13 zdT_dX9_beadsOf_0 rfl
theorem dX9_beadsOf_19 : decode cX9_beadsOf 19 = .ok (.iadd, 1) := zdcg 14 zdT_dX9_beadsOf_0 rfl
theorem dX9_beadsOf_20 : decode cX9_beadsOf 20 = .ok (.iload_n 3, 1) := zdcg 15 zdT_dX9_beadsOf_0 rfl
theorem dX9_beadsOf_21 : decode cX9_beadsOf 21 = .ok (.isub, 1) := zdcg 16 zdT_dX9_beadsOf_0 rfl
theorem dX9_beadsOf_22 : decode cX9_beadsOf 22 = .ok (.ishl, 1) := zdcg 17 zdT_dX9_beadsOf_0 rfl
theorem dX9_beadsOf_23 : decode cX9_beadsOf 23 = .ok (.ior, 1) := zdcg 18 zdT_dX9_beadsOf_0 rfl
theorem dX9_beadsOf_24 : decode cX9_beadsOf 24 = .ok (.istore_n 2, 1) := zdcg 19 zdT_dX9_beadsOf_0 rfl
theorem dX9_beadsOf_25 : decode cX9_beadsOf 25 = .ok (.iinc 3 1, 3) := zdcg 20 zdT_dX9_beadsOf_0 rfl
theorem dX9_beadsOf_28 : decode cX9_beadsOf 28 = .ok (.goto (-24), 3) := zdcg 21 zdT_dX9_beadsOf_0 rfl
theorem dX9_beadsOf_31 : decode cX9_beadsOf 31 = .ok (.iload_n 2, 1) := zdcg 22 zdT_dX9_beadsOf_0 rfl
theorem dX9_beadsOf_32 : decode cX9_beadsOf 32 = .ok (.ireturn, 1) := zdcg 23 zdT_dX9_beadsOf_0 rfl
theorem zdT_dX9_charOf_0 : zdch cX9_charOf [(0, (.iload_n 3, 1)), (1, (.aload_n 0, 1)), (2, (.getfield 13, 3)), (5, (.iload_n 2, 1)), (6, (.iaload, 1)), (7, (.if_icmp .ne 5, 3)), (10, (.iconst 1, 1)), (11, (.ireturn, 1)), (12, (.aload_n 0, 1)), (13, (.iload_n 2, 1)), (14, (.iload_n 3, 1)), (15, (.invokevirtual 175, 3)), (18, (.istore 4, 2)), (20, (.iconst 0, 1)), (21, (.istore 5, 2)), (23, (.iload 4, 2)), (25, (.istore 6, 2)), (27, (.iload 6, 2)), (29, (.bipush 12, 2)), (31, (.if_icmp .ge 103, 3)), (34, (.iload_n 1, 1)), (35, (.iload 6, 2)), (37, (.ishr, 1)), (38, (.iconst 1, 1)), (39, (.iand, 1))] = true := by decide +kernel
theorem dX9_charOf_0 : decode cX9_charOf 0 = .ok (.iload_n 3, 1) := zdcg 0 zdT_dX9_charOf_0 rfl
theorem dX9_charOf_1 : decode cX9_charOf 1 = .ok (.aload_n 0, 1) := zdcg 1 zdT_dX9_charOf_0 rfl
theorem dX9_charOf_2 : decode cX9_charOf 2 = .ok (.getfield 13, 3) := zdcg 2 zdT_dX9_charOf_0 rfl
theorem dX9_charOf_5 : decode cX9_charOf 5 = .ok (.iload_n 2, 1) := zdcg 3 zdT_dX9_charOf_0 rfl
theorem dX9_charOf_6 : decode cX9_charOf 6 = .ok (.iaload, 1) := zdcg 4 zdT_dX9_charOf_0 rfl
theorem dX9_charOf_7 : decode cX9_charOf 7 = .ok (.if_icmp .ne 5, 3) := zdcg 5 zdT_dX9_charOf_0 rfl
theorem dX9_charOf_10 : decode cX9_charOf 10 = .ok (.iconst 1, 1) := zdcg 6 zdT_dX9_charOf_0 rfl
theorem dX9_charOf_11 : decode cX9_charOf 11 = .ok (.ireturn, 1) := zdcg 7 zdT_dX9_charOf_0 rfl
theorem dX9_charOf_12 : decode cX9_charOf 12 = .ok (.aload_n 0, 1) := zdcg 8 zdT_dX9_charOf_0 rfl
theorem dX9_charOf_13 : decode cX9_charOf 13 = .ok (.iload_n 2, 1) := zdcg 9 zdT_dX9_charOf_0 rfl
theorem dX9_charOf_14 : decode cX9_charOf 14 = .ok (.iload_n 3, 1) := zdcg 10 zdT_dX9_charOf_0 rfl
theorem dX9_charOf_15 : decode cX9_charOf 15 = .ok (.invokevirtual 175, 3) := zdcg 11 zdT_dX9_charOf_0 rfl
theorem dX9_charOf_18 : decode cX9_charOf 18 = .ok (.istore 4, 2) := zdcg 12 zdT_dX9_charOf_0 rfl
theorem dX9_charOf_20 : decode cX9_charOf 20 = .ok (.iconst 0, 1) := zdcg 13 zdT_dX9_charOf_0 rfl
theorem dX9_charOf_21 : decode cX9_charOf 21 = .ok (.istore 5, 2) := zdcg 14 zdT_dX9_charOf_0 rfl
theorem dX9_charOf_23 : decode cX9_charOf 23 = .ok (.iload 4, 2) := zdcg 15 zdT_dX9_charOf_0 rfl
theorem dX9_charOf_25 : decode cX9_charOf 25 = .ok (.istore 6, 2) := zdcg 16 zdT_dX9_charOf_0 rfl
theorem dX9_charOf_27 : decode cX9_charOf 27 = .ok (.iload 6, 2) := zdcg 17 zdT_dX9_charOf_0 rfl
theorem dX9_charOf_29 : decode cX9_charOf 29 = .ok (.bipush 12, 2) := zdcg 18 zdT_dX9_charOf_0 rfl
theorem dX9_charOf_31 : decode cX9_charOf 31 = .ok (.if_icmp .ge 103, 3) := zdcg 19 zdT_dX9_charOf_0 rfl
theorem dX9_charOf_34 : decode cX9_charOf 34 = .ok (.iload_n 1, 1) := zdcg 20 zdT_dX9_charOf_0 rfl
theorem dX9_charOf_35 : decode cX9_charOf 35 = .ok (.iload 6, 2) := zdcg 21 zdT_dX9_charOf_0 rfl
theorem dX9_charOf_37 : decode cX9_charOf 37 = .ok (.ishr, 1) := zdcg 22 zdT_dX9_charOf_0 rfl
theorem dX9_charOf_38 : decode cX9_charOf 38 = .ok (.iconst 1, 1) := zdcg 23 zdT_dX9_charOf_0 rfl
theorem dX9_charOf_39 : decode cX9_charOf 39 = .ok (.iand, 1) := zdcg 24 zdT_dX9_charOf_0 rfl
theorem zdT_dX9_charOf_40 : zdch cX9_charOf [(40, (.ifCond .eq 88, 3)), (43, (.iload_n 1, 1)), (44, (.iload 6, 2)), (46, (.iload 4, 2)), (48, (.isub, 1)), (49, (.ishr, 1)), (50, (.iconst 1, 1)), (51, (.iand, 1)), (52, (.iconst 1, 1)), (53, (.if_icmp .ne 6, 3)), (56, (.goto 72, 3)), (59, (.iload_n 1, 1)), (60, (.iload 6, 2)), (62, (.iload 4, 2)), (64, (.isub, 1)), (65, (.iconst 1, 1)), (66, (.iadd, 1)), (67, (.ishr, 1)), (68, (.iconst 1, 1)), (69, (.iload 4, 2)), (71, (.iconst 1, 1)), (72, (.isub, 1)), (73, (.ishl, 1)), (74, (.iconst 1, 1)), (75, (.isub, 1))] = true := by decide +kernel
theorem dX9_charOf_40 : decode cX9_charOf 40 = .ok (.ifCond .eq 88, 3) := zdcg 0 zdT_dX9_charOf_40 rfl
theorem dX9_charOf_43 : decode cX9_charOf 43 = .ok (.iload_n 1, 1) := zdcg 1 zdT_dX9_charOf_40 rfl
theorem dX9_charOf_44 : decode cX9_charOf 44 = .ok (.iload 6, 2) := zdcg 2 zdT_dX9_charOf_40 rfl
theorem dX9_charOf_46 : decode cX9_charOf 46 = .ok (.iload 4, 2) := zdcg 3 zdT_dX9_charOf_40 rfl
theorem dX9_charOf_48 : decode cX9_charOf 48 = .ok (.isub, 1) := zdcg 4 zdT_dX9_charOf_40 rfl
theorem dX9_charOf_49 : decode cX9_charOf 49 = .ok (.ishr, 1) := zdcg 5 zdT_dX9_charOf_40 rfl
theorem dX9_charOf_50 : decode cX9_charOf 50 = .ok (.iconst 1, 1) := zdcg 6 zdT_dX9_charOf_40 rfl
theorem dX9_charOf_51 : decode cX9_charOf 51 = .ok (.iand, 1) := zdcg 7 zdT_dX9_charOf_40 rfl
theorem dX9_charOf_52 : decode cX9_charOf 52 = .ok (.iconst 1, 1) := zdcg 8 zdT_dX9_charOf_40 rfl
theorem dX9_charOf_53 : decode cX9_charOf 53 = .ok (.if_icmp .ne 6, 3) := zdcg 9 zdT_dX9_charOf_40 rfl
theorem dX9_charOf_56 : decode cX9_charOf 56 = .ok (.goto 72, 3) := zdcg 10 zdT_dX9_charOf_40 rfl
theorem dX9_charOf_59 : decode cX9_charOf 59 = .ok (.iload_n 1, 1) := zdcg 11 zdT_dX9_charOf_40 rfl
theorem dX9_charOf_60 : decode cX9_charOf 60 = .ok (.iload 6, 2) := zdcg 12 zdT_dX9_charOf_40 rfl
theorem dX9_charOf_62 : decode cX9_charOf 62 = .ok (.iload 4, 2) := zdcg 13 zdT_dX9_charOf_40 rfl
theorem dX9_charOf_64 : decode cX9_charOf 64 = .ok (.isub, 1) := zdcg 14 zdT_dX9_charOf_40 rfl
theorem dX9_charOf_65 : decode cX9_charOf 65 = .ok (.iconst 1, 1) := zdcg 15 zdT_dX9_charOf_40 rfl
theorem dX9_charOf_66 : decode cX9_charOf 66 = .ok (.iadd, 1) := zdcg 16 zdT_dX9_charOf_40 rfl
theorem dX9_charOf_67 : decode cX9_charOf 67 = .ok (.ishr, 1) := zdcg 17 zdT_dX9_charOf_40 rfl
theorem dX9_charOf_68 : decode cX9_charOf 68 = .ok (.iconst 1, 1) := zdcg 18 zdT_dX9_charOf_40 rfl
theorem dX9_charOf_69 : decode cX9_charOf 69 = .ok (.iload 4, 2) := zdcg 19 zdT_dX9_charOf_40 rfl
theorem dX9_charOf_71 : decode cX9_charOf 71 = .ok (.iconst 1, 1) := zdcg 20 zdT_dX9_charOf_40 rfl
theorem dX9_charOf_72 : decode cX9_charOf 72 = .ok (.isub, 1) := zdcg 21 zdT_dX9_charOf_40 rfl
theorem dX9_charOf_73 : decode cX9_charOf 73 = .ok (.ishl, 1) := zdcg 22 zdT_dX9_charOf_40 rfl
theorem dX9_charOf_74 : decode cX9_charOf 74 = .ok (.iconst 1, 1) := zdcg 23 zdT_dX9_charOf_40 rfl
theorem dX9_charOf_75 : decode cX9_charOf 75 = .ok (.isub, 1) := zdcg 24 zdT_dX9_charOf_40 rfl
theorem zdT_dX9_charOf_76 : zdch cX9_charOf [(76, (.iand, 1)), (77, (.istore 7, 2)), (79, (.aload_n 0, 1)), (80, (.iload_n 1, 1)), (81, (.iconst 1, 1)), (82, (.iload 6, 2)), (84, (.ishl, 1)), (85, (.iconst (-1), 1)), (86, (.ixor, 1)), (87, (.iand, 1)), (88, (.iconst 1, 1)), (89, (.iload 6, 2)), (91, (.iload 4, 2)), (93, (.isub, 1)), (94, (.ishl, 1)), (95, (.ior, 1)), (96, (.iload_n 2, 1)), (97, (.iload_n 3, 1)), (98, (.iconst 1, 1)), (99, (.iadd, 1)), (100, (.invokevirtual 191, 3)), (103, (.istore 8, 2)), (105, (.iload 5, 2)), (107, (.iload 7, 2)), (109, (.invokestatic 195, 3))] = true := by decide +kernel
theorem dX9_charOf_76 : decode cX9_charOf 76 = .ok (.iand, 1) := zdcg 0 zdT_dX9_charOf_76 rfl
theorem dX9_charOf_77 : decode cX9_charOf 77 = .ok (.istore 7, 2) := zdcg 1 zdT_dX9_charOf_76 rfl
theorem dX9_charOf_79 : decode cX9_charOf 79 = .ok (.aload_n 0, 1) := zdcg 2 zdT_dX9_charOf_76 rfl
theorem dX9_charOf_80 : decode cX9_charOf 80 = .ok (.iload_n 1, 1) := zdcg 3 zdT_dX9_charOf_76 rfl
theorem dX9_charOf_81 : decode cX9_charOf 81 = .ok (.iconst 1, 1) := zdcg 4 zdT_dX9_charOf_76 rfl
theorem dX9_charOf_82 : decode cX9_charOf 82 = .ok (.iload 6, 2) := zdcg 5 zdT_dX9_charOf_76 rfl
theorem dX9_charOf_84 : decode cX9_charOf 84 = .ok (.ishl, 1) := zdcg 6 zdT_dX9_charOf_76 rfl
theorem dX9_charOf_85 : decode cX9_charOf 85 = .ok (.iconst (-1), 1) := zdcg 7 zdT_dX9_charOf_76 rfl
theorem dX9_charOf_86 : decode cX9_charOf 86 = .ok (.ixor, 1) := zdcg 8 zdT_dX9_charOf_76 rfl
theorem dX9_charOf_87 : decode cX9_charOf 87 = .ok (.iand, 1) := zdcg 9 zdT_dX9_charOf_76 rfl
theorem dX9_charOf_88 : decode cX9_charOf 88 = .ok (.iconst 1, 1) := zdcg 10 zdT_dX9_charOf_76 rfl
theorem dX9_charOf_89 : decode cX9_charOf 89 = .ok (.iload 6, 2) := zdcg 11 zdT_dX9_charOf_76 rfl
theorem dX9_charOf_91 : decode cX9_charOf 91 = .ok (.iload 4, 2) := zdcg 12 zdT_dX9_charOf_76 rfl
theorem dX9_charOf_93 : decode cX9_charOf 93 = .ok (.isub, 1) := zdcg 13 zdT_dX9_charOf_76 rfl
theorem dX9_charOf_94 : decode cX9_charOf 94 = .ok (.ishl, 1) := zdcg 14 zdT_dX9_charOf_76 rfl
theorem dX9_charOf_95 : decode cX9_charOf 95 = .ok (.ior, 1) := zdcg 15 zdT_dX9_charOf_76 rfl
theorem dX9_charOf_96 : decode cX9_charOf 96 = .ok (.iload_n 2, 1) := zdcg 16 zdT_dX9_charOf_76 rfl
theorem dX9_charOf_97 : decode cX9_charOf 97 = .ok (.iload_n 3, 1) := zdcg 17 zdT_dX9_charOf_76 rfl
theorem dX9_charOf_98 : decode cX9_charOf 98 = .ok (.iconst 1, 1) := zdcg 18 zdT_dX9_charOf_76 rfl
theorem dX9_charOf_99 : decode cX9_charOf 99 = .ok (.iadd, 1) := zdcg 19 zdT_dX9_charOf_76 rfl
theorem dX9_charOf_100 : decode cX9_charOf 100 = .ok (.invokevirtual 191, 3) := zdcg 20 zdT_dX9_charOf_76 rfl
theorem dX9_charOf_103 : decode cX9_charOf 103 = .ok (.istore 8, 2) := zdcg 21 zdT_dX9_charOf_76 rfl
theorem dX9_charOf_105 : decode cX9_charOf 105 = .ok (.iload 5, 2) := zdcg 22 zdT_dX9_charOf_76 rfl
theorem dX9_charOf_107 : decode cX9_charOf 107 = .ok (.iload 7, 2) := zdcg 23 zdT_dX9_charOf_76 rfl
theorem dX9_charOf_109 : decode cX9_charOf 109 = .ok (.invokestatic 195, 3) := zdcg 24 zdT_dX9_charOf_76 rfl
theorem zdT_dX9_charOf_112 : zdch cX9_charOf [(112, (.iconst 2, 1)), (113, (.irem, 1)), (114, (.ifCond .ne 8, 3)), (117, (.iload 8, 2)), (119, (.goto 6, 3)), (122, (.iload 8, 2)), (124, (.ineg, 1)), (125, (.iadd, 1)), (126, (.istore 5, 2))] = true := by decide +kernel
theorem dX9_charOf_112 : decode cX9_charOf 112 = .ok (.iconst 2, 1) := zdcg 0 zdT_dX9_charOf_112 rfl
theorem dX9_charOf_113 : decode cX9_charOf 113 = .ok (.irem, 1) := zdcg 1 zdT_dX9_charOf_112 rfl
theorem dX9_charOf_114 : decode cX9_charOf 114 = .ok (.ifCond .ne 8, 3) := zdcg 2 zdT_dX9_charOf_112 rfl
theorem dX9_charOf_117 : decode cX9_charOf 117 = .ok (.iload 8, 2) := zdcg 3 zdT_dX9_charOf_112 rfl
theorem dX9_charOf_119 : decode cX9_charOf 119 = .ok (.goto 6, 3) := zdcg 4 zdT_dX9_charOf_112 rfl
theorem dX9_charOf_122 : decode cX9_charOf 122 = .ok (.iload 8, 2) := zdcg 5 zdT_dX9_charOf_112 rfl
theorem dX9_charOf_124 : decode cX9_charOf 124 = .ok (.ineg, 1) := zdcg 6 zdT_dX9_charOf_112 rfl
theorem dX9_charOf_125 : decode cX9_charOf 125 = .ok (.iadd, 1) := zdcg 7 zdT_dX9_charOf_112 rfl
theorem dX9_charOf_126 : decode cX9_charOf 126 = .ok (.istore 5, 2) := zdcg 8 zdT_dX9_charOf_112 rfl
end
section
/-! instructions, by program -/
theorem zdT_dX9_charOf_128 : zdch cX9_charOf [(128, (.iinc 6 1, 3)), (131, (.goto (-104), 3)), (134, (.iload 5, 2)), (136, (.ireturn, 1))] = true := by decide +kernel
theorem dX9_charOf_128 : decode cX9_charOf 128 = .ok (.iinc 6 1, 3) := zdcg 0 zdT_dX9_charOf_128 rfl
theorem dX9_charOf_131 : decode cX9_charOf 131 = .ok (.goto (-104), 3) := zdcg 1 zdT_dX9_charOf_128 rfl
theorem dX9_charOf_134 : decode cX9_charOf 134 = .ok (.iload 5, 2) := zdcg 2 zdT_dX9_charOf_128 rfl
theorem dX9_charOf_136 : decode cX9_charOf 136 = .ok (.ireturn, 1) := zdcg 3 zdT_dX9_charOf_128 rfl
theorem zdT_dX9_cores_0 : zdch cX9_cores [(0, (.aload_n 0, 1)), (1, (.iconst 0, 1)), (2, (.putfield 199, 3)), (5, (.iconst 0, 1)), (6, (.istore_n 1, 1)), (7, (.iload_n 1, 1)), (8, (.aload_n 0, 1)), (9, (.getfield 153, 3)), (12, (.if_icmp .ge 206, 3)), (15, (.aload_n 0, 1)), (16, (.iload_n 1, 1)), (17, (.invokevirtual 202, 3)), (20, (.istore_n 2, 1)), (21, (.aload_n 0, 1)), (22, (.getfield 41, 3)), (25, (.iload_n 1, 1)), (26, (.iconst 0, 1)), (27, (.iastore, 1)), (28, (.iconst 1, 1)), (29, (.istore_n 3, 1)), (30, (.iload_n 3, 1)), (31, (.ifCond .eq 85, 3)), (34, (.iconst 0, 1)), (35, (.istore_n 3, 1)), (36, (.aload_n 0, 1))] = true := by decide +kernel
theorem dX9_cores_0 : decode cX9_cores 0 = .ok (.aload_n 0, 1) := zdcg 0 zdT_dX9_cores_0 rfl
theorem dX9_cores_1 : decode cX9_cores 1 = .ok (.iconst 0, 1) := zdcg 1 zdT_dX9_cores_0 rfl
theorem dX9_cores_2 : decode cX9_cores 2 = .ok (.putfield 199, 3) := zdcg 2 zdT_dX9_cores_0 rfl
theorem dX9_cores_5 : decode cX9_cores 5 = .ok (.iconst 0, 1) := zdcg 3 zdT_dX9_cores_0 rfl
theorem dX9_cores_6 : decode cX9_cores 6 = .ok (.istore_n 1, 1) := zdcg 4 zdT_dX9_cores_0 rfl
theorem dX9_cores_7 : decode cX9_cores 7 = .ok (.iload_n 1, 1) := zdcg 5 zdT_dX9_cores_0 rfl
theorem dX9_cores_8 : decode cX9_cores 8 = .ok (.aload_n 0, 1) := zdcg 6 zdT_dX9_cores_0 rfl
theorem dX9_cores_9 : decode cX9_cores 9 = .ok (.getfield 153, 3) := zdcg 7 zdT_dX9_cores_0 rfl
theorem dX9_cores_12 : decode cX9_cores 12 = .ok (.if_icmp .ge 206, 3) := zdcg 8 zdT_dX9_cores_0 rfl
theorem dX9_cores_15 : decode cX9_cores 15 = .ok (.aload_n 0, 1) := zdcg 9 zdT_dX9_cores_0 rfl
theorem dX9_cores_16 : decode cX9_cores 16 = .ok (.iload_n 1, 1) := zdcg 10 zdT_dX9_cores_0 rfl
theorem dX9_cores_17 : decode cX9_cores 17 = .ok (.invokevirtual 202, 3) := zdcg 11 zdT_dX9_cores_0 rfl
theorem dX9_cores_20 : decode cX9_cores 20 = .ok (.istore_n 2, 1) := zdcg 12 zdT_dX9_cores_0 rfl
theorem dX9_cores_21 : decode cX9_cores 21 = .ok (.aload_n 0, 1) := zdcg 13 zdT_dX9_cores_0 rfl
theorem dX9_cores_22 : decode cX9_cores 22 = .ok (.getfield 41, 3) := zdcg 14 zdT_dX9_cores_0 rfl
theorem dX9_cores_25 : decode cX9_cores 25 = .ok (.iload_n 1, 1) := zdcg 15 zdT_dX9_cores_0 rfl
theorem dX9_cores_26 : decode cX9_cores 26 = .ok (.iconst 0, 1) := zdcg 16 zdT_dX9_cores_0 rfl
theorem dX9_cores_27 : decode cX9_cores 27 = .ok (.iastore, 1) := zdcg 17 zdT_dX9_cores_0 rfl
theorem dX9_cores_28 : decode cX9_cores 28 = .ok (.iconst 1, 1) := zdcg 18 zdT_dX9_cores_0 rfl
theorem dX9_cores_29 : decode cX9_cores 29 = .ok (.istore_n 3, 1) := zdcg 19 zdT_dX9_cores_0 rfl
theorem dX9_cores_30 : decode cX9_cores 30 = .ok (.iload_n 3, 1) := zdcg 20 zdT_dX9_cores_0 rfl
theorem dX9_cores_31 : decode cX9_cores 31 = .ok (.ifCond .eq 85, 3) := zdcg 21 zdT_dX9_cores_0 rfl
theorem dX9_cores_34 : decode cX9_cores 34 = .ok (.iconst 0, 1) := zdcg 22 zdT_dX9_cores_0 rfl
theorem dX9_cores_35 : decode cX9_cores 35 = .ok (.istore_n 3, 1) := zdcg 23 zdT_dX9_cores_0 rfl
theorem dX9_cores_36 : decode cX9_cores 36 = .ok (.aload_n 0, 1) := zdcg 24 zdT_dX9_cores_0 rfl
theorem zdT_dX9_cores_37 : zdch cX9_cores [(37, (.getfield 184, 3)), (40, (.istore 4, 2)), (42, (.iload 4, 2)), (44, (.bipush 12, 2)), (46, (.if_icmp .ge 67, 3)), (49, (.iload_n 2, 1)), (50, (.iload 4, 2)), (52, (.ishr, 1)), (53, (.iconst 1, 1)), (54, (.iand, 1)), (55, (.ifCond .eq 52, 3)), (58, (.iload_n 2, 1)), (59, (.iload 4, 2)), (61, (.aload_n 0, 1)), (62, (.getfield 184, 3)), (65, (.isub, 1)), (66, (.ishr, 1)), (67, (.iconst 1, 1)), (68, (.iand, 1)), (69, (.iconst 1, 1)), (70, (.if_icmp .ne 6, 3)), (73, (.goto 34, 3)), (76, (.iload_n 2, 1)), (77, (.iconst 1, 1)), (78, (.iload 4, 2))] = true := by decide +kernel
theorem dX9_cores_37 : decode cX9_cores 37 = .ok (.getfield 184, 3) := zdcg 0 zdT_dX9_cores_37 rfl
theorem dX9_cores_40 : decode cX9_cores 40 = .ok (.istore 4, 2) := zdcg 1 zdT_dX9_cores_37 rfl
theorem dX9_cores_42 : decode cX9_cores 42 = .ok (.iload 4, 2) := zdcg 2 zdT_dX9_cores_37 rfl
theorem dX9_cores_44 : decode cX9_cores 44 = .ok (.bipush 12, 2) := zdcg 3 zdT_dX9_cores_37 rfl
theorem dX9_cores_46 : decode cX9_cores 46 = .ok (.if_icmp .ge 67, 3) := zdcg 4 zdT_dX9_cores_37 rfl
theorem dX9_cores_49 : decode cX9_cores 49 = .ok (.iload_n 2, 1) := zdcg 5 zdT_dX9_cores_37 rfl
theorem dX9_cores_50 : decode cX9_cores 50 = .ok (.iload 4, 2) := zdcg 6 zdT_dX9_cores_37 rfl
theorem dX9_cores_52 : decode cX9_cores 52 = .ok (.ishr, 1) := zdcg 7 zdT_dX9_cores_37 rfl
theorem dX9_cores_53 : decode cX9_cores 53 = .ok (.iconst 1, 1) := zdcg 8 zdT_dX9_cores_37 rfl
theorem dX9_cores_54 : decode cX9_cores 54 = .ok (.iand, 1) := zdcg 9 zdT_dX9_cores_37 rfl
theorem dX9_cores_55 : decode cX9_cores 55 = .ok (.ifCond .eq 52, 3) := zdcg 10 zdT_dX9_cores_37 rfl
theorem dX9_cores_58 : decode cX9_cores 58 = .ok (.iload_n 2, 1) := zdcg 11 zdT_dX9_cores_37 rfl
theorem dX9_cores_59 : decode cX9_cores 59 = .ok (.iload 4, 2) := zdcg 12 zdT_dX9_cores_37 rfl
theorem dX9_cores_61 : decode cX9_cores 61 = .ok (.aload_n 0, 1) := zdcg 13 zdT_dX9_cores_37 rfl
theorem dX9_cores_62 : decode cX9_cores 62 = .ok (.getfield 184, 3) := zdcg 14 zdT_dX9_cores_37 rfl
theorem dX9_cores_65 : decode cX9_cores 65 = .ok (.isub, 1) := zdcg 15 zdT_dX9_cores_37 rfl
theorem dX9_cores_66 : decode cX9_cores 66 = .ok (.ishr, 1) := zdcg 16 zdT_dX9_cores_37 rfl
theorem dX9_cores_67 : decode cX9_cores 67 = .ok (.iconst 1, 1) := zdcg 17 zdT_dX9_cores_37 rfl
theorem dX9_cores_68 : decode cX9_cores 68 = .ok (.iand, 1) := zdcg 18 zdT_dX9_cores_37 rfl
theorem dX9_cores_69 : decode cX9_cores 69 = .ok (.iconst 1, 1) := zdcg 19 zdT_dX9_cores_37 rfl
theorem dX9_cores_70 : decode cX9_cores 70 = .ok (.if_icmp .ne 6, 3) := zdcg 20 zdT_dX9_cores_37 rfl
theorem dX9_cores_73 : decode cX9_cores 73 = .ok (.goto 34, 3) := zdcg 21 zdT_dX9_cores_37 rfl
theorem dX9_cores_76 : decode cX9_cores 76 = .ok (.iload_n 2, 1) := zdcg 22 zdT_dX9_cores_37 rfl
theorem dX9_cores_77 : decode cX9_cores 77 = .ok (.iconst 1, 1) := zdcg 23 zdT_dX9_cores_37 rfl
theorem dX9_cores_78 : decode cX9_cores 78 = .ok (.iload 4, 2) := zdcg 24 zdT_dX9_cores_37 rfl
theorem zdT_dX9_cores_80 : zdch cX9_cores [(80, (.ishl, 1)), (81, (.iconst (-1), 1)), (82, (.ixor, 1)), (83, (.iand, 1)), (84, (.iconst 1, 1)), (85, (.iload 4, 2)), (87, (.aload_n 0, 1)), (88, (.getfield 184, 3)), (91, (.isub, 1)), (92, (.ishl, 1)), (93, (.ior, 1)), (94, (.istore_n 2, 1)), (95, (.aload_n 0, 1)), (96, (.getfield 41, 3)), (99, (.iload_n 1, 1)), (100, (.dup2, 1)), (101, (.iaload, 1)), (102, (.iconst 1, 1)), (103, (.iadd, 1)), (104, (.iastore, 1)), (105, (.iconst 1, 1)), (106, (.istore_n 3, 1)), (107, (.iinc 4 1, 3)), (110, (.goto (-68), 3)), (113, (.goto (-83), 3))] = true := by decide +kernel
theorem dX9_cores_80 : decode cX9_cores 80 = .ok (.ishl, 1) := zdcg 0 zdT_dX9_cores_80 rfl
theorem dX9_cores_81 : decode cX9_cores 81 = .ok (.iconst (-1), 1) := zdcg 1 zdT_dX9_cores_80 rfl
theorem dX9_cores_82 : decode cX9_cores 82 = .ok (.ixor, 1) := zdcg 2 zdT_dX9_cores_80 rfl
theorem dX9_cores_83 : decode cX9_cores 83 = .ok (.iand, 1) := zdcg 3 zdT_dX9_cores_80 rfl
theorem dX9_cores_84 : decode cX9_cores 84 = .ok (.iconst 1, 1) := zdcg 4 zdT_dX9_cores_80 rfl
theorem dX9_cores_85 : decode cX9_cores 85 = .ok (.iload 4, 2) := zdcg 5 zdT_dX9_cores_80 rfl
theorem dX9_cores_87 : decode cX9_cores 87 = .ok (.aload_n 0, 1) := zdcg 6 zdT_dX9_cores_80 rfl
theorem dX9_cores_88 : decode cX9_cores 88 = .ok (.getfield 184, 3) := zdcg 7 zdT_dX9_cores_80 rfl
theorem dX9_cores_91 : decode cX9_cores 91 = .ok (.isub, 1) := zdcg 8 zdT_dX9_cores_80 rfl
theorem dX9_cores_92 : decode cX9_cores 92 = .ok (.ishl, 1) := zdcg 9 zdT_dX9_cores_80 rfl
theorem dX9_cores_93 : decode cX9_cores 93 = .ok (.ior, 1) := zdcg 10 zdT_dX9_cores_80 rfl
theorem dX9_cores_94 : decode cX9_cores 94 = .ok (.istore_n 2, 1) := zdcg 11 zdT_dX9_cores_80 rfl
theorem dX9_cores_95 : decode cX9_cores 95 = .ok (.aload_n 0, 1) := zdcg 12 zdT_dX9_cores_80 rfl
theorem dX9_cores_96 : decode cX9_cores 96 = .ok (.getfield 41, 3) := zdcg 13 zdT_dX9_cores_80 rfl
theorem dX9_cores_99 : decode cX9_cores 99 = .ok (.iload_n 1, 1) := zdcg 14 zdT_dX9_cores_80 rfl
theorem dX9_cores_100 : decode cX9_cores 100 = .ok (.dup2, 1) := zdcg 15 zdT_dX9_cores_80 rfl
theorem dX9_cores_101 : decode cX9_cores 101 = .ok (.iaload, 1) := zdcg 16 zdT_dX9_cores_80 rfl
theorem dX9_cores_102 : decode cX9_cores 102 = .ok (.iconst 1, 1) := zdcg 17 zdT_dX9_cores_80 rfl
theorem dX9_cores_103 : decode cX9_cores 103 = .ok (.iadd, 1) := zdcg 18 zdT_dX9_cores_80 rfl
theorem dX9_cores_104 : decode cX9_cores 104 = .ok (.iastore, 1) := zdcg 19 zdT_dX9_cores_80 rfl
theorem dX9_cores_105 : decode cX9_cores 105 = .ok (.iconst 1, 1) := zdcg 20 zdT_dX9_cores_80 rfl
theorem dX9_cores_106 : decode cX9_cores 106 = .ok (.istore_n 3, 1) := zdcg 21 zdT_dX9_cores_80 rfl
theorem dX9_cores_107 : decode cX9_cores 107 = .ok (.iinc 4 1, 3) := zdcg 22 zdT_dX9_cores_80 rfl
theorem dX9_cores_110 : decode cX9_cores 110 = .ok (.goto (-68), 3) := zdcg 23 zdT_dX9_cores_80 rfl
theorem dX9_cores_113 : decode cX9_cores 113 = .ok (.goto (-83), 3) := zdcg 24 zdT_dX9_cores_80 rfl
theorem zdT_dX9_cores_116 : zdch cX9_cores [(116, (.aload_n 0, 1)), (117, (.getfield 44, 3)), (120, (.iload_n 1, 1)), (121, (.iload_n 2, 1)), (122, (.iastore, 1)), (123, (.aload_n 0, 1)), (124, (.getfield 47, 3)), (127, (.iload_n 1, 1)), (128, (.iconst (-1), 1)), (129, (.iastore, 1)), (130, (.iconst 0, 1)), (131, (.istore 4, 2)), (133, (.iload 4, 2)), (135, (.iload_n 1, 1)), (136, (.if_icmp .ge 33, 3)), (139, (.aload_n 0, 1)), (140, (.getfield 44, 3)), (143, (.iload 4, 2)), (145, (.iaload, 1)), (146, (.iload_n 2, 1)), (147, (.if_icmp .ne 16, 3)), (150, (.aload_n 0, 1)), (151, (.getfield 47, 3)), (154, (.iload_n 1, 1)), (155, (.aload_n 0, 1))] = true := by decide +kernel
theorem dX9_cores_116 : decode cX9_cores 116 = .ok (.aload_n 0, 1) := zdcg 0 zdT_dX9_cores_116 rfl
theorem dX9_cores_117 : decode cX9_cores 117 = .ok (.getfield 44, 3) := zdcg 1 zdT_dX9_cores_116 rfl
theorem dX9_cores_120 : decode cX9_cores 120 = .ok (.iload_n 1, 1) := zdcg 2 zdT_dX9_cores_116 rfl
theorem dX9_cores_121 : decode cX9_cores 121 = .ok (.iload_n 2, 1) := zdcg 3 zdT_dX9_cores_116 rfl
theorem dX9_cores_122 : decode cX9_cores 122 = .ok (.iastore, 1) := zdcg 4 zdT_dX9_cores_116 rfl
theorem dX9_cores_123 : decode cX9_cores 123 = .ok (.aload_n 0, 1) := zdcg 5 zdT_dX9_cores_116 rfl
theorem dX9_cores_124 : decode cX9_cores 124 = .ok (.getfield 47, 3) := zdcg 6 zdT_dX9_cores_116 rfl
theorem dX9_cores_127 : decode cX9_cores 127 = .ok (.iload_n 1, 1) := zdcg 7 zdT_dX9_cores_116 rfl
theorem dX9_cores_128 : decode cX9_cores 128 = .ok (.iconst (-1), 1) := zdcg 8 zdT_dX9_cores_116 rfl
theorem dX9_cores_129 : decode cX9_cores 129 = .ok (.iastore, 1) := zdcg 9 zdT_dX9_cores_116 rfl
theorem dX9_cores_130 : decode cX9_cores 130 = .ok (.iconst 0, 1) := zdcg 10 zdT_dX9_cores_116 rfl
theorem dX9_cores_131 : decode cX9_cores 131 = .ok (.istore 4, 2) := zdcg 11 zdT_dX9_cores_116 rfl
theorem dX9_cores_133 : decode cX9_cores 133 = .ok (.iload 4, 2) := zdcg 12 zdT_dX9_cores_116 rfl
theorem dX9_cores_135 : decode cX9_cores 135 = .ok (.iload_n 1, 1) := zdcg 13 zdT_dX9_cores_116 rfl
theorem dX9_cores_136 : decode cX9_cores 136 = .ok (.if_icmp .ge 33, 3) := zdcg 14 zdT_dX9_cores_116 rfl
theorem dX9_cores_139 : decode cX9_cores 139 = .ok (.aload_n 0, 1) := zdcg 15 zdT_dX9_cores_116 rfl
theorem dX9_cores_140 : decode cX9_cores 140 = .ok (.getfield 44, 3) := zdcg 16 zdT_dX9_cores_116 rfl
theorem dX9_cores_143 : decode cX9_cores 143 = .ok (.iload 4, 2) := zdcg 17 zdT_dX9_cores_116 rfl
theorem dX9_cores_145 : decode cX9_cores 145 = .ok (.iaload, 1) := zdcg 18 zdT_dX9_cores_116 rfl
theorem dX9_cores_146 : decode cX9_cores 146 = .ok (.iload_n 2, 1) := zdcg 19 zdT_dX9_cores_116 rfl
theorem dX9_cores_147 : decode cX9_cores 147 = .ok (.if_icmp .ne 16, 3) := zdcg 20 zdT_dX9_cores_116 rfl
theorem dX9_cores_150 : decode cX9_cores 150 = .ok (.aload_n 0, 1) := zdcg 21 zdT_dX9_cores_116 rfl
theorem dX9_cores_151 : decode cX9_cores 151 = .ok (.getfield 47, 3) := zdcg 22 zdT_dX9_cores_116 rfl
theorem dX9_cores_154 : decode cX9_cores 154 = .ok (.iload_n 1, 1) := zdcg 23 zdT_dX9_cores_116 rfl
theorem dX9_cores_155 : decode cX9_cores 155 = .ok (.aload_n 0, 1) := zdcg 24 zdT_dX9_cores_116 rfl
theorem zdT_dX9_cores_156 : zdch cX9_cores [(156, (.getfield 47, 3)), (159, (.iload 4, 2)), (161, (.iaload, 1)), (162, (.iastore, 1)), (163, (.iinc 4 1, 3)), (166, (.goto (-33), 3)), (169, (.aload_n 0, 1)), (170, (.getfield 47, 3)), (173, (.iload_n 1, 1)), (174, (.iaload, 1)), (175, (.iconst (-1), 1)), (176, (.if_icmp .eq 6, 3)), (179, (.goto 33, 3)), (182, (.aload_n 0, 1)), (183, (.getfield 47, 3)), (186, (.iload_n 1, 1)), (187, (.aload_n 0, 1)), (188, (.getfield 199, 3)), (191, (.iastore, 1)), (192, (.aload_n 0, 1)), (193, (.getfield 50, 3)), (196, (.aload_n 0, 1)), (197, (.getfield 199, 3)), (200, (.iload_n 1, 1)), (201, (.iastore, 1))] = true := by decide +kernel
theorem dX9_cores_156 : decode cX9_cores 156 = .ok (.getfield 47, 3) := zdcg 0 zdT_dX9_cores_156 rfl
theorem dX9_cores_159 : decode cX9_cores 159 = .ok (.iload 4, 2) := zdcg 1 zdT_dX9_cores_156 rfl
theorem dX9_cores_161 : decode cX9_cores 161 = .ok (.iaload, 1) := zdcg 2 zdT_dX9_cores_156 rfl
theorem dX9_cores_162 : decode cX9_cores 162 = .ok (.iastore, 1) := zdcg 3 zdT_dX9_cores_156 rfl
theorem dX9_cores_163 : decode cX9_cores 163 = .ok (.iinc 4 1, 3) := zdcg 4 zdT_dX9_cores_156 rfl
theorem dX9_cores_166 : decode cX9_cores 166 = .ok (.goto (-33), 3) := zdcg 5 zdT_dX9_cores_156 rfl
theorem dX9_cores_169 : decode cX9_cores 169 = .ok (.aload_n 0, 1) := zdcg 6 zdT_dX9_cores_156 rfl
theorem dX9_cores_170 : decode cX9_cores 170 = .ok (.getfield 47, 3) := zdcg 7 zdT_dX9_cores_156 rfl
theorem dX9_cores_173 : decode cX9_cores 173 = .ok (.iload_n 1, 1) := zdcg 8 zdT_dX9_cores_156 rfl
theorem dX9_cores_174 : decode cX9_cores 174 = .ok (.iaload, 1) := zdcg 9 zdT_dX9_cores_156 rfl
theorem dX9_cores_175 : decode cX9_cores 175 = .ok (.iconst (-1), 1) := zdcg 10 zdT_dX9_cores_156 rfl
theorem dX9_cores_176 : decode cX9_cores 176 = .ok (.if_icmp .eq 6, 3) := zdcg 11 zdT_dX9_cores_156 rfl
theorem dX9_cores_179 : decode cX9_cores 179 = .ok (.goto 33, 3) := zdcg 12 zdT_dX9_cores_156 rfl
theorem dX9_cores_182 : decode cX9_cores 182 = .ok (.aload_n 0, 1) := zdcg 13 zdT_dX9_cores_156 rfl
theorem dX9_cores_183 : decode cX9_cores 183 = .ok (.getfield 47, 3) := zdcg 14 zdT_dX9_cores_156 rfl
theorem dX9_cores_186 : decode cX9_cores 186 = .ok (.iload_n 1, 1) := zdcg 15 zdT_dX9_cores_156 rfl
theorem dX9_cores_187 : decode cX9_cores 187 = .ok (.aload_n 0, 1) := zdcg 16 zdT_dX9_cores_156 rfl
theorem dX9_cores_188 : decode cX9_cores 188 = .ok (.getfield 199, 3) := zdcg 17 zdT_dX9_cores_156 rfl
theorem dX9_cores_191 : decode cX9_cores 191 = .ok (.iastore, 1) := zdcg 18 zdT_dX9_cores_156 rfl
theorem dX9_cores_192 : decode cX9_cores 192 = .ok (.aload_n 0, 1) := zdcg 19 zdT_dX9_cores_156 rfl
theorem dX9_cores_193 : decode cX9_cores 193 = .ok (.getfield 50, 3) := zdcg 20 zdT_dX9_cores_156 rfl
theorem dX9_cores_196 : decode cX9_cores 196 = .ok (.aload_n 0, 1) := zdcg 21 zdT_dX9_cores_156 rfl
theorem dX9_cores_197 : decode cX9_cores 197 = .ok (.getfield 199, 3) := zdcg 22 zdT_dX9_cores_156 rfl
theorem dX9_cores_200 : decode cX9_cores 200 = .ok (.iload_n 1, 1) := zdcg 23 zdT_dX9_cores_156 rfl
theorem dX9_cores_201 : decode cX9_cores 201 = .ok (.iastore, 1) := zdcg 24 zdT_dX9_cores_156 rfl
theorem zdT_dX9_cores_202 : zdch cX9_cores [(202, (.aload_n 0, 1)), (203, (.dup, 1)), (204, (.getfield 199, 3)), (207, (.iconst 1, 1)), (208, (.iadd, 1)), (209, (.putfield 199, 3)), (212, (.iinc 1 1, 3)), (215, (.goto (-208), 3)), (218, (.return_, 1))] = true := by decide +kernel
theorem dX9_cores_202 : decode cX9_cores 202 = .ok (.aload_n 0, 1) := zdcg 0 zdT_dX9_cores_202 rfl
theorem dX9_cores_203 : decode cX9_cores 203 = .ok (.dup, 1) := zdcg 1 zdT_dX9_cores_202 rfl
theorem dX9_cores_204 : decode cX9_cores 204 = .ok (.getfield 199, 3) := zdcg 2 zdT_dX9_cores_202 rfl
theorem dX9_cores_207 : decode cX9_cores 207 = .ok (.iconst 1, 1) := zdcg 3 zdT_dX9_cores_202 rfl
theorem dX9_cores_208 : decode cX9_cores 208 = .ok (.iadd, 1) := zdcg 4 zdT_dX9_cores_202 rfl
theorem dX9_cores_209 : decode cX9_cores 209 = .ok (.putfield 199, 3) := zdcg 5 zdT_dX9_cores_202 rfl
theorem dX9_cores_212 : decode cX9_cores 212 = .ok (.iinc 1 1, 3) := zdcg 6 zdT_dX9_cores_202 rfl
theorem dX9_cores_215 : decode cX9_cores 215 = .ok (.goto (-208), 3) := zdcg 7 zdT_dX9_cores_202 rfl
theorem dX9_cores_218 : decode cX9_cores 218 = .ok (.return_, 1) := zdcg 8 zdT_dX9_cores_202 rfl
theorem zdT_dX9_rowOf_0 : zdch cX9_rowOf [(0, (.iload_n 1, 1)), (1, (.istore_n 2, 1)), (2, (.iconst 0, 1)), (3, (.istore_n 3, 1)), (4, (.iload_n 2, 1)), (5, (.aload_n 0, 1)), (6, (.aload_n 0, 1)), (7, (.getfield 205, 3)), (10, (.iload_n 3, 1)), (11, (.invokevirtual 175, 3)), (14, (.if_icmp .lt 21, 3)), (17, (.iload_n 2, 1)), (18, (.aload_n 0, 1)), (19, (.aload_n 0, 1)), (20, (.getfield 205, 3)), (23, (.iload_n 3, 1)), (24, (.invokevirtual 175, 3)), (27, (.isub, 1)), (28, (.istore_n 2, 1)), (29, (.iinc 3 1, 3)), (32, (.goto (-28), 3)), (35, (.iload_n 3, 1)), (36, (.ireturn, 1))] = true := by decide +kernel
theorem dX9_rowOf_0 : decode cX9_rowOf 0 = .ok (.iload_n 1, 1) := zdcg 0 zdT_dX9_rowOf_0 rfl
theorem dX9_rowOf_1 : decode cX9_rowOf 1 = .ok (.istore_n 2, 1) := zdcg 1 zdT_dX9_rowOf_0 rfl
theorem dX9_rowOf_2 : decode cX9_rowOf 2 = .ok (.iconst 0, 1) := zdcg 2 zdT_dX9_rowOf_0 rfl
theorem dX9_rowOf_3 : decode cX9_rowOf 3 = .ok (.istore_n 3, 1) := zdcg 3 zdT_dX9_rowOf_0 rfl
theorem dX9_rowOf_4 : decode cX9_rowOf 4 = .ok (.iload_n 2, 1) := zdcg 4 zdT_dX9_rowOf_0 rfl
theorem dX9_rowOf_5 : decode cX9_rowOf 5 = .ok (.aload_n 0, 1) := zdcg 5 zdT_dX9_rowOf_0 rfl
theorem dX9_rowOf_6 : decode cX9_rowOf 6 = .ok (.aload_n 0, 1) := zdcg 6 zdT_dX9_rowOf_0 rfl
theorem dX9_rowOf_7 : decode cX9_rowOf 7 = .ok (.getfield 205, 3) := zdcg 7 zdT_dX9_rowOf_0 rfl
theorem dX9_rowOf_10 : decode cX9_rowOf 10 = .ok (.iload_n 3, 1) := zdcg 8 zdT_dX9_rowOf_0 rfl
theorem dX9_rowOf_11 : decode cX9_rowOf 11 = .ok (.invokevirtual 175, 3) := zdcg 9 zdT_dX9_rowOf_0 rfl
theorem dX9_rowOf_14 : decode cX9_rowOf 14 = .ok (.if_icmp .lt 21, 3) := zdcg 10 zdT_dX9_rowOf_0 rfl
theorem dX9_rowOf_17 : decode cX9_rowOf 17 = .ok (.iload_n 2, 1) := zdcg 11 zdT_dX9_rowOf_0 rfl
theorem dX9_rowOf_18 : decode cX9_rowOf 18 = .ok (.aload_n 0, 1) := zdcg 12 zdT_dX9_rowOf_0 rfl
theorem dX9_rowOf_19 : decode cX9_rowOf 19 = .ok (.aload_n 0, 1) := zdcg 13 zdT_dX9_rowOf_0 rfl
theorem dX9_rowOf_20 : decode cX9_rowOf 20 = .ok (.getfield 205, 3) := zdcg 14 zdT_dX9_rowOf_0 rfl
theorem dX9_rowOf_23 : decode cX9_rowOf 23 = .ok (.iload_n 3, 1) := zdcg 15 zdT_dX9_rowOf_0 rfl
theorem dX9_rowOf_24 : decode cX9_rowOf 24 = .ok (.invokevirtual 175, 3) := zdcg 16 zdT_dX9_rowOf_0 rfl
theorem dX9_rowOf_27 : decode cX9_rowOf 27 = .ok (.isub, 1) := zdcg 17 zdT_dX9_rowOf_0 rfl
theorem dX9_rowOf_28 : decode cX9_rowOf 28 = .ok (.istore_n 2, 1) := zdcg 18 zdT_dX9_rowOf_0 rfl
theorem dX9_rowOf_29 : decode cX9_rowOf 29 = .ok (.iinc 3 1, 3) := zdcg 19 zdT_dX9_rowOf_0 rfl
theorem dX9_rowOf_32 : decode cX9_rowOf 32 = .ok (.goto (-28), 3) := zdcg 20 zdT_dX9_rowOf_0 rfl
theorem dX9_rowOf_35 : decode cX9_rowOf 35 = .ok (.iload_n 3, 1) := zdcg 21 zdT_dX9_rowOf_0 rfl
theorem dX9_rowOf_36 : decode cX9_rowOf 36 = .ok (.ireturn, 1) := zdcg 22 zdT_dX9_rowOf_0 rfl
theorem zdT_dX9_cellAt_0 : zdch cX9_cellAt [(0, (.iload_n 2, 1)), (1, (.istore_n 3, 1)), (2, (.iconst 0, 1)), (3, (.istore 4, 2)), (5, (.iload 4, 2)), (7, (.iload_n 1, 1)), (8, (.if_icmp .ge 22, 3)), (11, (.iload_n 3, 1)), (12, (.aload_n 0, 1)), (13, (.aload_n 0, 1)), (14, (.getfield 205, 3)), (17, (.iload 4, 2)), (19, (.invokevirtual 175, 3)), (22, (.iadd, 1)), (23, (.istore_n 3, 1)), (24, (.iinc 4 1, 3)), (27, (.goto (-22), 3)), (30, (.iload_n 3, 1)), (31, (.ireturn, 1))] = true := by decide +kernel
theorem dX9_cellAt_0 : decode cX9_cellAt 0 = .ok (.iload_n 2, 1) := zdcg 0 zdT_dX9_cellAt_0 rfl
theorem dX9_cellAt_1 : decode cX9_cellAt 1 = .ok (.istore_n 3, 1) := zdcg 1 zdT_dX9_cellAt_0 rfl
theorem dX9_cellAt_2 : decode cX9_cellAt 2 = .ok (.iconst 0, 1) := zdcg 2 zdT_dX9_cellAt_0 rfl
theorem dX9_cellAt_3 : decode cX9_cellAt 3 = .ok (.istore 4, 2) := zdcg 3 zdT_dX9_cellAt_0 rfl
theorem dX9_cellAt_5 : decode cX9_cellAt 5 = .ok (.iload 4, 2) := zdcg 4 zdT_dX9_cellAt_0 rfl
theorem dX9_cellAt_7 : decode cX9_cellAt 7 = .ok (.iload_n 1, 1) := zdcg 5 zdT_dX9_cellAt_0 rfl
theorem dX9_cellAt_8 : decode cX9_cellAt 8 = .ok (.if_icmp .ge 22, 3) := zdcg 6 zdT_dX9_cellAt_0 rfl
theorem dX9_cellAt_11 : decode cX9_cellAt 11 = .ok (.iload_n 3, 1) := zdcg 7 zdT_dX9_cellAt_0 rfl
theorem dX9_cellAt_12 : decode cX9_cellAt 12 = .ok (.aload_n 0, 1) := zdcg 8 zdT_dX9_cellAt_0 rfl
theorem dX9_cellAt_13 : decode cX9_cellAt 13 = .ok (.aload_n 0, 1) := zdcg 9 zdT_dX9_cellAt_0 rfl
theorem dX9_cellAt_14 : decode cX9_cellAt 14 = .ok (.getfield 205, 3) := zdcg 10 zdT_dX9_cellAt_0 rfl
theorem dX9_cellAt_17 : decode cX9_cellAt 17 = .ok (.iload 4, 2) := zdcg 11 zdT_dX9_cellAt_0 rfl
theorem dX9_cellAt_19 : decode cX9_cellAt 19 = .ok (.invokevirtual 175, 3) := zdcg 12 zdT_dX9_cellAt_0 rfl
theorem dX9_cellAt_22 : decode cX9_cellAt 22 = .ok (.iadd, 1) := zdcg 13 zdT_dX9_cellAt_0 rfl
theorem dX9_cellAt_23 : decode cX9_cellAt 23 = .ok (.istore_n 3, 1) := zdcg 14 zdT_dX9_cellAt_0 rfl
theorem dX9_cellAt_24 : decode cX9_cellAt 24 = .ok (.iinc 4 1, 3) := zdcg 15 zdT_dX9_cellAt_0 rfl
theorem dX9_cellAt_27 : decode cX9_cellAt 27 = .ok (.goto (-22), 3) := zdcg 16 zdT_dX9_cellAt_0 rfl
theorem dX9_cellAt_30 : decode cX9_cellAt 30 = .ok (.iload_n 3, 1) := zdcg 17 zdT_dX9_cellAt_0 rfl
theorem dX9_cellAt_31 : decode cX9_cellAt 31 = .ok (.ireturn, 1) := zdcg 18 zdT_dX9_cellAt_0 rfl
theorem zdT_dX9_fills_0 : zdch cX9_fills [(0, (.iload_n 1, 1)), (1, (.aload_n 0, 1)), (2, (.getfield 169, 3)), (5, (.if_icmp .ne 50, 3)), (8, (.iconst 0, 1)), (9, (.istore_n 3, 1)), (10, (.iload_n 3, 1)), (11, (.aload_n 0, 1)), (12, (.getfield 169, 3)), (15, (.if_icmp .ge 29, 3)), (18, (.aload_n 0, 1)), (19, (.getfield 59, 3)), (22, (.bipush 6, 2)), (24, (.aload_n 0, 1)), (25, (.getfield 208, 3)), (28, (.imul, 1)), (29, (.iload_n 3, 1)), (30, (.iadd, 1)), (31, (.aload_n 0, 1)), (32, (.getfield 62, 3)), (35, (.iload_n 3, 1)), (36, (.iaload, 1)), (37, (.iastore, 1)), (38, (.iinc 3 1, 3)), (41, (.goto (-31), 3))] = true := by decide +kernel
theorem dX9_fills_0 : decode cX9_fills 0 = .ok (.iload_n 1, 1) := zdcg 0 zdT_dX9_fills_0 rfl
theorem dX9_fills_1 : decode cX9_fills 1 = .ok (.aload_n 0, 1) := zdcg 1 zdT_dX9_fills_0 rfl
theorem dX9_fills_2 : decode cX9_fills 2 = .ok (.getfield 169, 3) := zdcg 2 zdT_dX9_fills_0 rfl
theorem dX9_fills_5 : decode cX9_fills 5 = .ok (.if_icmp .ne 50, 3) := zdcg 3 zdT_dX9_fills_0 rfl
theorem dX9_fills_8 : decode cX9_fills 8 = .ok (.iconst 0, 1) := zdcg 4 zdT_dX9_fills_0 rfl
theorem dX9_fills_9 : decode cX9_fills 9 = .ok (.istore_n 3, 1) := zdcg 5 zdT_dX9_fills_0 rfl
theorem dX9_fills_10 : decode cX9_fills 10 = .ok (.iload_n 3, 1) := zdcg 6 zdT_dX9_fills_0 rfl
theorem dX9_fills_11 : decode cX9_fills 11 = .ok (.aload_n 0, 1) := zdcg 7 zdT_dX9_fills_0 rfl
theorem dX9_fills_12 : decode cX9_fills 12 = .ok (.getfield 169, 3) := zdcg 8 zdT_dX9_fills_0 rfl
theorem dX9_fills_15 : decode cX9_fills 15 = .ok (.if_icmp .ge 29, 3) := zdcg 9 zdT_dX9_fills_0 rfl
theorem dX9_fills_18 : decode cX9_fills 18 = .ok (.aload_n 0, 1) := zdcg 10 zdT_dX9_fills_0 rfl
theorem dX9_fills_19 : decode cX9_fills 19 = .ok (.getfield 59, 3) := zdcg 11 zdT_dX9_fills_0 rfl
theorem dX9_fills_22 : decode cX9_fills 22 = .ok (.bipush 6, 2) := zdcg 12 zdT_dX9_fills_0 rfl
theorem dX9_fills_24 : decode cX9_fills 24 = .ok (.aload_n 0, 1) := zdcg 13 zdT_dX9_fills_0 rfl
theorem dX9_fills_25 : decode cX9_fills 25 = .ok (.getfield 208, 3) := zdcg 14 zdT_dX9_fills_0 rfl
theorem dX9_fills_28 : decode cX9_fills 28 = .ok (.imul, 1) := zdcg 15 zdT_dX9_fills_0 rfl
theorem dX9_fills_29 : decode cX9_fills 29 = .ok (.iload_n 3, 1) := zdcg 16 zdT_dX9_fills_0 rfl
theorem dX9_fills_30 : decode cX9_fills 30 = .ok (.iadd, 1) := zdcg 17 zdT_dX9_fills_0 rfl
theorem dX9_fills_31 : decode cX9_fills 31 = .ok (.aload_n 0, 1) := zdcg 18 zdT_dX9_fills_0 rfl
theorem dX9_fills_32 : decode cX9_fills 32 = .ok (.getfield 62, 3) := zdcg 19 zdT_dX9_fills_0 rfl
theorem dX9_fills_35 : decode cX9_fills 35 = .ok (.iload_n 3, 1) := zdcg 20 zdT_dX9_fills_0 rfl
theorem dX9_fills_36 : decode cX9_fills 36 = .ok (.iaload, 1) := zdcg 21 zdT_dX9_fills_0 rfl
theorem dX9_fills_37 : decode cX9_fills 37 = .ok (.iastore, 1) := zdcg 22 zdT_dX9_fills_0 rfl
theorem dX9_fills_38 : decode cX9_fills 38 = .ok (.iinc 3 1, 3) := zdcg 23 zdT_dX9_fills_0 rfl
theorem dX9_fills_41 : decode cX9_fills 41 = .ok (.goto (-31), 3) := zdcg 24 zdT_dX9_fills_0 rfl
theorem zdT_dX9_fills_44 : zdch cX9_fills [(44, (.aload_n 0, 1)), (45, (.dup, 1)), (46, (.getfield 208, 3)), (49, (.iconst 1, 1)), (50, (.iadd, 1)), (51, (.putfield 208, 3)), (54, (.return_, 1)), (55, (.aload_n 0, 1)), (56, (.iload_n 1, 1)), (57, (.invokevirtual 211, 3)), (60, (.istore_n 3, 1)), (61, (.iload_n 1, 1)), (62, (.aload_n 0, 1)), (63, (.iload_n 3, 1)), (64, (.iconst 0, 1)), (65, (.invokevirtual 214, 3)), (68, (.isub, 1)), (69, (.istore 4, 2)), (71, (.iconst 1, 1)), (72, (.istore 5, 2)), (74, (.iload 5, 2)), (76, (.aload_n 0, 1)), (77, (.getfield 169, 3)), (80, (.if_icmp .gt 87, 3)), (83, (.iload_n 2, 1))] = true := by decide +kernel
theorem dX9_fills_44 : decode cX9_fills 44 = .ok (.aload_n 0, 1) := zdcg 0 zdT_dX9_fills_44 rfl
theorem dX9_fills_45 : decode cX9_fills 45 = .ok (.dup, 1) := zdcg 1 zdT_dX9_fills_44 rfl
theorem dX9_fills_46 : decode cX9_fills 46 = .ok (.getfield 208, 3) := zdcg 2 zdT_dX9_fills_44 rfl
theorem dX9_fills_49 : decode cX9_fills 49 = .ok (.iconst 1, 1) := zdcg 3 zdT_dX9_fills_44 rfl
theorem dX9_fills_50 : decode cX9_fills 50 = .ok (.iadd, 1) := zdcg 4 zdT_dX9_fills_44 rfl
theorem dX9_fills_51 : decode cX9_fills 51 = .ok (.putfield 208, 3) := zdcg 5 zdT_dX9_fills_44 rfl
theorem dX9_fills_54 : decode cX9_fills 54 = .ok (.return_, 1) := zdcg 6 zdT_dX9_fills_44 rfl
theorem dX9_fills_55 : decode cX9_fills 55 = .ok (.aload_n 0, 1) := zdcg 7 zdT_dX9_fills_44 rfl
theorem dX9_fills_56 : decode cX9_fills 56 = .ok (.iload_n 1, 1) := zdcg 8 zdT_dX9_fills_44 rfl
theorem dX9_fills_57 : decode cX9_fills 57 = .ok (.invokevirtual 211, 3) := zdcg 9 zdT_dX9_fills_44 rfl
theorem dX9_fills_60 : decode cX9_fills 60 = .ok (.istore_n 3, 1) := zdcg 10 zdT_dX9_fills_44 rfl
theorem dX9_fills_61 : decode cX9_fills 61 = .ok (.iload_n 1, 1) := zdcg 11 zdT_dX9_fills_44 rfl
theorem dX9_fills_62 : decode cX9_fills 62 = .ok (.aload_n 0, 1) := zdcg 12 zdT_dX9_fills_44 rfl
theorem dX9_fills_63 : decode cX9_fills 63 = .ok (.iload_n 3, 1) := zdcg 13 zdT_dX9_fills_44 rfl
theorem dX9_fills_64 : decode cX9_fills 64 = .ok (.iconst 0, 1) := zdcg 14 zdT_dX9_fills_44 rfl
theorem dX9_fills_65 : decode cX9_fills 65 = .ok (.invokevirtual 214, 3) := zdcg 15 zdT_dX9_fills_44 rfl
theorem dX9_fills_68 : decode cX9_fills 68 = .ok (.isub, 1) := zdcg 16 zdT_dX9_fills_44 rfl
theorem dX9_fills_69 : decode cX9_fills 69 = .ok (.istore 4, 2) := zdcg 17 zdT_dX9_fills_44 rfl
theorem dX9_fills_71 : decode cX9_fills 71 = .ok (.iconst 1, 1) := zdcg 18 zdT_dX9_fills_44 rfl
theorem dX9_fills_72 : decode cX9_fills 72 = .ok (.istore 5, 2) := zdcg 19 zdT_dX9_fills_44 rfl
theorem dX9_fills_74 : decode cX9_fills 74 = .ok (.iload 5, 2) := zdcg 20 zdT_dX9_fills_44 rfl
theorem dX9_fills_76 : decode cX9_fills 76 = .ok (.aload_n 0, 1) := zdcg 21 zdT_dX9_fills_44 rfl
theorem dX9_fills_77 : decode cX9_fills 77 = .ok (.getfield 169, 3) := zdcg 22 zdT_dX9_fills_44 rfl
theorem dX9_fills_80 : decode cX9_fills 80 = .ok (.if_icmp .gt 87, 3) := zdcg 23 zdT_dX9_fills_44 rfl
theorem dX9_fills_83 : decode cX9_fills 83 = .ok (.iload_n 2, 1) := zdcg 24 zdT_dX9_fills_44 rfl
theorem zdT_dX9_fills_84 : zdch cX9_fills [(84, (.iload 5, 2)), (86, (.ishr, 1)), (87, (.iconst 1, 1)), (88, (.iand, 1)), (89, (.iconst 1, 1)), (90, (.if_icmp .ne 6, 3)), (93, (.goto 68, 3)), (96, (.iload 4, 2)), (98, (.ifCond .le 16, 3)), (101, (.aload_n 0, 1)), (102, (.getfield 62, 3)), (105, (.iload_n 1, 1)), (106, (.iconst 1, 1)), (107, (.isub, 1)), (108, (.iaload, 1)), (109, (.iload 5, 2)), (111, (.if_icmp .gt 50, 3)), (114, (.iload_n 3, 1)), (115, (.ifCond .le 25, 3)), (118, (.aload_n 0, 1)), (119, (.getfield 62, 3)), (122, (.aload_n 0, 1)), (123, (.iload_n 3, 1)), (124, (.iconst 1, 1)), (125, (.isub, 1))] = true := by decide +kernel
theorem dX9_fills_84 : decode cX9_fills 84 = .ok (.iload 5, 2) := zdcg 0 zdT_dX9_fills_84 rfl
theorem dX9_fills_86 : decode cX9_fills 86 = .ok (.ishr, 1) := zdcg 1 zdT_dX9_fills_84 rfl
theorem dX9_fills_87 : decode cX9_fills 87 = .ok (.iconst 1, 1) := zdcg 2 zdT_dX9_fills_84 rfl
theorem dX9_fills_88 : decode cX9_fills 88 = .ok (.iand, 1) := zdcg 3 zdT_dX9_fills_84 rfl
theorem dX9_fills_89 : decode cX9_fills 89 = .ok (.iconst 1, 1) := zdcg 4 zdT_dX9_fills_84 rfl
theorem dX9_fills_90 : decode cX9_fills 90 = .ok (.if_icmp .ne 6, 3) := zdcg 5 zdT_dX9_fills_84 rfl
theorem dX9_fills_93 : decode cX9_fills 93 = .ok (.goto 68, 3) := zdcg 6 zdT_dX9_fills_84 rfl
theorem dX9_fills_96 : decode cX9_fills 96 = .ok (.iload 4, 2) := zdcg 7 zdT_dX9_fills_84 rfl
theorem dX9_fills_98 : decode cX9_fills 98 = .ok (.ifCond .le 16, 3) := zdcg 8 zdT_dX9_fills_84 rfl
theorem dX9_fills_101 : decode cX9_fills 101 = .ok (.aload_n 0, 1) := zdcg 9 zdT_dX9_fills_84 rfl
theorem dX9_fills_102 : decode cX9_fills 102 = .ok (.getfield 62, 3) := zdcg 10 zdT_dX9_fills_84 rfl
theorem dX9_fills_105 : decode cX9_fills 105 = .ok (.iload_n 1, 1) := zdcg 11 zdT_dX9_fills_84 rfl
theorem dX9_fills_106 : decode cX9_fills 106 = .ok (.iconst 1, 1) := zdcg 12 zdT_dX9_fills_84 rfl
theorem dX9_fills_107 : decode cX9_fills 107 = .ok (.isub, 1) := zdcg 13 zdT_dX9_fills_84 rfl
theorem dX9_fills_108 : decode cX9_fills 108 = .ok (.iaload, 1) := zdcg 14 zdT_dX9_fills_84 rfl
theorem dX9_fills_109 : decode cX9_fills 109 = .ok (.iload 5, 2) := zdcg 15 zdT_dX9_fills_84 rfl
theorem dX9_fills_111 : decode cX9_fills 111 = .ok (.if_icmp .gt 50, 3) := zdcg 16 zdT_dX9_fills_84 rfl
theorem dX9_fills_114 : decode cX9_fills 114 = .ok (.iload_n 3, 1) := zdcg 17 zdT_dX9_fills_84 rfl
theorem dX9_fills_115 : decode cX9_fills 115 = .ok (.ifCond .le 25, 3) := zdcg 18 zdT_dX9_fills_84 rfl
theorem dX9_fills_118 : decode cX9_fills 118 = .ok (.aload_n 0, 1) := zdcg 19 zdT_dX9_fills_84 rfl
theorem dX9_fills_119 : decode cX9_fills 119 = .ok (.getfield 62, 3) := zdcg 20 zdT_dX9_fills_84 rfl
theorem dX9_fills_122 : decode cX9_fills 122 = .ok (.aload_n 0, 1) := zdcg 21 zdT_dX9_fills_84 rfl
theorem dX9_fills_123 : decode cX9_fills 123 = .ok (.iload_n 3, 1) := zdcg 22 zdT_dX9_fills_84 rfl
theorem dX9_fills_124 : decode cX9_fills 124 = .ok (.iconst 1, 1) := zdcg 23 zdT_dX9_fills_84 rfl
theorem dX9_fills_125 : decode cX9_fills 125 = .ok (.isub, 1) := zdcg 24 zdT_dX9_fills_84 rfl
theorem zdT_dX9_fills_126 : zdch cX9_fills [(126, (.iload 4, 2)), (128, (.invokevirtual 214, 3)), (131, (.iaload, 1)), (132, (.iload 5, 2)), (134, (.if_icmp .le 6, 3)), (137, (.goto 24, 3)), (140, (.aload_n 0, 1)), (141, (.getfield 62, 3)), (144, (.iload_n 1, 1)), (145, (.iload 5, 2)), (147, (.iastore, 1)), (148, (.aload_n 0, 1)), (149, (.iload_n 1, 1)), (150, (.iconst 1, 1)), (151, (.iadd, 1)), (152, (.iload_n 2, 1)), (153, (.iconst 1, 1)), (154, (.iload 5, 2)), (156, (.ishl, 1)), (157, (.ior, 1)), (158, (.invokevirtual 217, 3)), (161, (.iinc 5 1, 3)), (164, (.goto (-90), 3)), (167, (.return_, 1))] = true := by decide +kernel
theorem dX9_fills_126 : decode cX9_fills 126 = .ok (.iload 4, 2) := zdcg 0 zdT_dX9_fills_126 rfl
theorem dX9_fills_128 : decode cX9_fills 128 = .ok (.invokevirtual 214, 3) := zdcg 1 zdT_dX9_fills_126 rfl
theorem dX9_fills_131 : decode cX9_fills 131 = .ok (.iaload, 1) := zdcg 2 zdT_dX9_fills_126 rfl
theorem dX9_fills_132 : decode cX9_fills 132 = .ok (.iload 5, 2) := zdcg 3 zdT_dX9_fills_126 rfl
theorem dX9_fills_134 : decode cX9_fills 134 = .ok (.if_icmp .le 6, 3) := zdcg 4 zdT_dX9_fills_126 rfl
theorem dX9_fills_137 : decode cX9_fills 137 = .ok (.goto 24, 3) := zdcg 5 zdT_dX9_fills_126 rfl
theorem dX9_fills_140 : decode cX9_fills 140 = .ok (.aload_n 0, 1) := zdcg 6 zdT_dX9_fills_126 rfl
theorem dX9_fills_141 : decode cX9_fills 141 = .ok (.getfield 62, 3) := zdcg 7 zdT_dX9_fills_126 rfl
theorem dX9_fills_144 : decode cX9_fills 144 = .ok (.iload_n 1, 1) := zdcg 8 zdT_dX9_fills_126 rfl
theorem dX9_fills_145 : decode cX9_fills 145 = .ok (.iload 5, 2) := zdcg 9 zdT_dX9_fills_126 rfl
theorem dX9_fills_147 : decode cX9_fills 147 = .ok (.iastore, 1) := zdcg 10 zdT_dX9_fills_126 rfl
theorem dX9_fills_148 : decode cX9_fills 148 = .ok (.aload_n 0, 1) := zdcg 11 zdT_dX9_fills_126 rfl
theorem dX9_fills_149 : decode cX9_fills 149 = .ok (.iload_n 1, 1) := zdcg 12 zdT_dX9_fills_126 rfl
theorem dX9_fills_150 : decode cX9_fills 150 = .ok (.iconst 1, 1) := zdcg 13 zdT_dX9_fills_126 rfl
theorem dX9_fills_151 : decode cX9_fills 151 = .ok (.iadd, 1) := zdcg 14 zdT_dX9_fills_126 rfl
theorem dX9_fills_152 : decode cX9_fills 152 = .ok (.iload_n 2, 1) := zdcg 15 zdT_dX9_fills_126 rfl
theorem dX9_fills_153 : decode cX9_fills 153 = .ok (.iconst 1, 1) := zdcg 16 zdT_dX9_fills_126 rfl
theorem dX9_fills_154 : decode cX9_fills 154 = .ok (.iload 5, 2) := zdcg 17 zdT_dX9_fills_126 rfl
theorem dX9_fills_156 : decode cX9_fills 156 = .ok (.ishl, 1) := zdcg 18 zdT_dX9_fills_126 rfl
theorem dX9_fills_157 : decode cX9_fills 157 = .ok (.ior, 1) := zdcg 19 zdT_dX9_fills_126 rfl
theorem dX9_fills_158 : decode cX9_fills 158 = .ok (.invokevirtual 217, 3) := zdcg 20 zdT_dX9_fills_126 rfl
theorem dX9_fills_161 : decode cX9_fills 161 = .ok (.iinc 5 1, 3) := zdcg 21 zdT_dX9_fills_126 rfl
theorem dX9_fills_164 : decode cX9_fills 164 = .ok (.goto (-90), 3) := zdcg 22 zdT_dX9_fills_126 rfl
theorem dX9_fills_167 : decode cX9_fills 167 = .ok (.return_, 1) := zdcg 23 zdT_dX9_fills_126 rfl
theorem zdT_dX9_placeNow_0 : zdch cX9_placeNow [(0, (.iconst 0, 1)), (1, (.istore_n 1, 1)), (2, (.aload_n 0, 1)), (3, (.getfield 169, 3)), (6, (.istore_n 2, 1)), (7, (.iload_n 2, 1)), (8, (.ifCond .le 21, 3)), (11, (.bipush 6, 2)), (13, (.iload_n 1, 1)), (14, (.imul, 1)), (15, (.aload_n 0, 1)), (16, (.getfield 81, 3)), (19, (.iload_n 2, 1)), (20, (.iaload, 1)), (21, (.iadd, 1)), (22, (.istore_n 1, 1)), (23, (.iinc 2 (-1), 3)), (26, (.goto (-19), 3)), (29, (.aload_n 0, 1)), (30, (.getfield 66, 3)), (33, (.iload_n 1, 1)), (34, (.iaload, 1)), (35, (.ifCond .ne 33, 3)), (38, (.aload_n 0, 1)), (39, (.getfield 69, 3))] = true := by decide +kernel
theorem dX9_placeNow_0 : decode cX9_placeNow 0 = .ok (.iconst 0, 1) := zdcg 0 zdT_dX9_placeNow_0 rfl
theorem dX9_placeNow_1 : decode cX9_placeNow 1 = .ok (.istore_n 1, 1) := zdcg 1 zdT_dX9_placeNow_0 rfl
theorem dX9_placeNow_2 : decode cX9_placeNow 2 = .ok (.aload_n 0, 1) := zdcg 2 zdT_dX9_placeNow_0 rfl
theorem dX9_placeNow_3 : decode cX9_placeNow 3 = .ok (.getfield 169, 3) := zdcg 3 zdT_dX9_placeNow_0 rfl
theorem dX9_placeNow_6 : decode cX9_placeNow 6 = .ok (.istore_n 2, 1) := zdcg 4 zdT_dX9_placeNow_0 rfl
theorem dX9_placeNow_7 : decode cX9_placeNow 7 = .ok (.iload_n 2, 1) := zdcg 5 zdT_dX9_placeNow_0 rfl
theorem dX9_placeNow_8 : decode cX9_placeNow 8 = .ok (.ifCond .le 21, 3) := zdcg 6 zdT_dX9_placeNow_0 rfl
theorem dX9_placeNow_11 : decode cX9_placeNow 11 = .ok (.bipush 6, 2) := zdcg 7 zdT_dX9_placeNow_0 rfl
theorem dX9_placeNow_13 : decode cX9_placeNow 13 = .ok (.iload_n 1, 1) := zdcg 8 zdT_dX9_placeNow_0 rfl
theorem dX9_placeNow_14 : decode cX9_placeNow 14 = .ok (.imul, 1) := zdcg 9 zdT_dX9_placeNow_0 rfl
theorem dX9_placeNow_15 : decode cX9_placeNow 15 = .ok (.aload_n 0, 1) := zdcg 10 zdT_dX9_placeNow_0 rfl
theorem dX9_placeNow_16 : decode cX9_placeNow 16 = .ok (.getfield 81, 3) := zdcg 11 zdT_dX9_placeNow_0 rfl
theorem dX9_placeNow_19 : decode cX9_placeNow 19 = .ok (.iload_n 2, 1) := zdcg 12 zdT_dX9_placeNow_0 rfl
theorem dX9_placeNow_20 : decode cX9_placeNow 20 = .ok (.iaload, 1) := zdcg 13 zdT_dX9_placeNow_0 rfl
theorem dX9_placeNow_21 : decode cX9_placeNow 21 = .ok (.iadd, 1) := zdcg 14 zdT_dX9_placeNow_0 rfl
theorem dX9_placeNow_22 : decode cX9_placeNow 22 = .ok (.istore_n 1, 1) := zdcg 15 zdT_dX9_placeNow_0 rfl
theorem dX9_placeNow_23 : decode cX9_placeNow 23 = .ok (.iinc 2 (-1), 3) := zdcg 16 zdT_dX9_placeNow_0 rfl
theorem dX9_placeNow_26 : decode cX9_placeNow 26 = .ok (.goto (-19), 3) := zdcg 17 zdT_dX9_placeNow_0 rfl
theorem dX9_placeNow_29 : decode cX9_placeNow 29 = .ok (.aload_n 0, 1) := zdcg 18 zdT_dX9_placeNow_0 rfl
theorem dX9_placeNow_30 : decode cX9_placeNow 30 = .ok (.getfield 66, 3) := zdcg 19 zdT_dX9_placeNow_0 rfl
theorem dX9_placeNow_33 : decode cX9_placeNow 33 = .ok (.iload_n 1, 1) := zdcg 20 zdT_dX9_placeNow_0 rfl
theorem dX9_placeNow_34 : decode cX9_placeNow 34 = .ok (.iaload, 1) := zdcg 21 zdT_dX9_placeNow_0 rfl
theorem dX9_placeNow_35 : decode cX9_placeNow 35 = .ok (.ifCond .ne 33, 3) := zdcg 22 zdT_dX9_placeNow_0 rfl
theorem dX9_placeNow_38 : decode cX9_placeNow 38 = .ok (.aload_n 0, 1) := zdcg 23 zdT_dX9_placeNow_0 rfl
theorem dX9_placeNow_39 : decode cX9_placeNow 39 = .ok (.getfield 69, 3) := zdcg 24 zdT_dX9_placeNow_0 rfl
theorem zdT_dX9_placeNow_42 : zdch cX9_placeNow [(42, (.aload_n 0, 1)), (43, (.getfield 220, 3)), (46, (.iload_n 1, 1)), (47, (.iastore, 1)), (48, (.aload_n 0, 1)), (49, (.dup, 1)), (50, (.getfield 220, 3)), (53, (.iconst 1, 1)), (54, (.iadd, 1)), (55, (.putfield 220, 3)), (58, (.aload_n 0, 1)), (59, (.getfield 66, 3)), (62, (.iload_n 1, 1)), (63, (.aload_n 0, 1)), (64, (.getfield 220, 3)), (67, (.iastore, 1)), (68, (.aload_n 0, 1)), (69, (.getfield 66, 3)), (72, (.iload_n 1, 1)), (73, (.iaload, 1)), (74, (.iconst 1, 1)), (75, (.isub, 1)), (76, (.ireturn, 1))] = true := by decide +kernel
theorem dX9_placeNow_42 : decode cX9_placeNow 42 = .ok (.aload_n 0, 1) := zdcg 0 zdT_dX9_placeNow_42 rfl
theorem dX9_placeNow_43 : decode cX9_placeNow 43 = .ok (.getfield 220, 3) := zdcg 1 zdT_dX9_placeNow_42 rfl
theorem dX9_placeNow_46 : decode cX9_placeNow 46 = .ok (.iload_n 1, 1) := zdcg 2 zdT_dX9_placeNow_42 rfl
theorem dX9_placeNow_47 : decode cX9_placeNow 47 = .ok (.iastore, 1) := zdcg 3 zdT_dX9_placeNow_42 rfl
theorem dX9_placeNow_48 : decode cX9_placeNow 48 = .ok (.aload_n 0, 1) := zdcg 4 zdT_dX9_placeNow_42 rfl
theorem dX9_placeNow_49 : decode cX9_placeNow 49 = .ok (.dup, 1) := zdcg 5 zdT_dX9_placeNow_42 rfl
theorem dX9_placeNow_50 : decode cX9_placeNow 50 = .ok (.getfield 220, 3) := zdcg 6 zdT_dX9_placeNow_42 rfl
theorem dX9_placeNow_53 : decode cX9_placeNow 53 = .ok (.iconst 1, 1) := zdcg 7 zdT_dX9_placeNow_42 rfl
theorem dX9_placeNow_54 : decode cX9_placeNow 54 = .ok (.iadd, 1) := zdcg 8 zdT_dX9_placeNow_42 rfl
theorem dX9_placeNow_55 : decode cX9_placeNow 55 = .ok (.putfield 220, 3) := zdcg 9 zdT_dX9_placeNow_42 rfl
theorem dX9_placeNow_58 : decode cX9_placeNow 58 = .ok (.aload_n 0, 1) := zdcg 10 zdT_dX9_placeNow_42 rfl
theorem dX9_placeNow_59 : decode cX9_placeNow 59 = .ok (.getfield 66, 3) := zdcg 11 zdT_dX9_placeNow_42 rfl
theorem dX9_placeNow_62 : decode cX9_placeNow 62 = .ok (.iload_n 1, 1) := zdcg 12 zdT_dX9_placeNow_42 rfl
theorem dX9_placeNow_63 : decode cX9_placeNow 63 = .ok (.aload_n 0, 1) := zdcg 13 zdT_dX9_placeNow_42 rfl
theorem dX9_placeNow_64 : decode cX9_placeNow 64 = .ok (.getfield 220, 3) := zdcg 14 zdT_dX9_placeNow_42 rfl
theorem dX9_placeNow_67 : decode cX9_placeNow 67 = .ok (.iastore, 1) := zdcg 15 zdT_dX9_placeNow_42 rfl
theorem dX9_placeNow_68 : decode cX9_placeNow 68 = .ok (.aload_n 0, 1) := zdcg 16 zdT_dX9_placeNow_42 rfl
theorem dX9_placeNow_69 : decode cX9_placeNow 69 = .ok (.getfield 66, 3) := zdcg 17 zdT_dX9_placeNow_42 rfl
theorem dX9_placeNow_72 : decode cX9_placeNow 72 = .ok (.iload_n 1, 1) := zdcg 18 zdT_dX9_placeNow_42 rfl
theorem dX9_placeNow_73 : decode cX9_placeNow 73 = .ok (.iaload, 1) := zdcg 19 zdT_dX9_placeNow_42 rfl
theorem dX9_placeNow_74 : decode cX9_placeNow 74 = .ok (.iconst 1, 1) := zdcg 20 zdT_dX9_placeNow_42 rfl
theorem dX9_placeNow_75 : decode cX9_placeNow 75 = .ok (.isub, 1) := zdcg 21 zdT_dX9_placeNow_42 rfl
theorem dX9_placeNow_76 : decode cX9_placeNow 76 = .ok (.ireturn, 1) := zdcg 22 zdT_dX9_placeNow_42 rfl
theorem zdT_dX9_spreads_0 : zdch cX9_spreads [(0, (.iload_n 3, 1)), (1, (.aload_n 0, 1)), (2, (.aload_n 0, 1)), (3, (.getfield 205, 3)), (6, (.iconst 0, 1)), (7, (.invokevirtual 175, 3)), (10, (.if_icmp .ne 17, 3)), (13, (.aload_n 1, 1)), (14, (.iload_n 2, 1)), (15, (.aload_n 0, 1)), (16, (.invokevirtual 223, 3)), (19, (.iadd, 1)), (20, (.dup2, 1)), (21, (.iaload, 1)), (22, (.iload 5, 2)), (24, (.iadd, 1)), (25, (.iastore, 1)), (26, (.return_, 1)), (27, (.iconst 0, 1)), (28, (.istore 6, 2)), (30, (.iload 6, 2)), (32, (.bipush 6, 2)), (34, (.if_icmp .ge 23, 3)), (37, (.aload_n 0, 1)), (38, (.aload_n 0, 1))] = true := by decide +kernel
theorem dX9_spreads_0 : decode cX9_spreads 0 = .ok (.iload_n 3, 1) := zdcg 0 zdT_dX9_spreads_0 rfl
theorem dX9_spreads_1 : decode cX9_spreads 1 = .ok (.aload_n 0, 1) := zdcg 1 zdT_dX9_spreads_0 rfl
theorem dX9_spreads_2 : decode cX9_spreads 2 = .ok (.aload_n 0, 1) := zdcg 2 zdT_dX9_spreads_0 rfl
theorem dX9_spreads_3 : decode cX9_spreads 3 = .ok (.getfield 205, 3) := zdcg 3 zdT_dX9_spreads_0 rfl
theorem dX9_spreads_6 : decode cX9_spreads 6 = .ok (.iconst 0, 1) := zdcg 4 zdT_dX9_spreads_0 rfl
theorem dX9_spreads_7 : decode cX9_spreads 7 = .ok (.invokevirtual 175, 3) := zdcg 5 zdT_dX9_spreads_0 rfl
theorem dX9_spreads_10 : decode cX9_spreads 10 = .ok (.if_icmp .ne 17, 3) := zdcg 6 zdT_dX9_spreads_0 rfl
theorem dX9_spreads_13 : decode cX9_spreads 13 = .ok (.aload_n 1, 1) := zdcg 7 zdT_dX9_spreads_0 rfl
theorem dX9_spreads_14 : decode cX9_spreads 14 = .ok (.iload_n 2, 1) := zdcg 8 zdT_dX9_spreads_0 rfl
theorem dX9_spreads_15 : decode cX9_spreads 15 = .ok (.aload_n 0, 1) := zdcg 9 zdT_dX9_spreads_0 rfl
theorem dX9_spreads_16 : decode cX9_spreads 16 = .ok (.invokevirtual 223, 3) := zdcg 10 zdT_dX9_spreads_0 rfl
theorem dX9_spreads_19 : decode cX9_spreads 19 = .ok (.iadd, 1) := zdcg 11 zdT_dX9_spreads_0 rfl
theorem dX9_spreads_20 : decode cX9_spreads 20 = .ok (.dup2, 1) := zdcg 12 zdT_dX9_spreads_0 rfl
theorem dX9_spreads_21 : decode cX9_spreads 21 = .ok (.iaload, 1) := zdcg 13 zdT_dX9_spreads_0 rfl
theorem dX9_spreads_22 : decode cX9_spreads 22 = .ok (.iload 5, 2) := zdcg 14 zdT_dX9_spreads_0 rfl
theorem dX9_spreads_24 : decode cX9_spreads 24 = .ok (.iadd, 1) := zdcg 15 zdT_dX9_spreads_0 rfl
theorem dX9_spreads_25 : decode cX9_spreads 25 = .ok (.iastore, 1) := zdcg 16 zdT_dX9_spreads_0 rfl
theorem dX9_spreads_26 : decode cX9_spreads 26 = .ok (.return_, 1) := zdcg 17 zdT_dX9_spreads_0 rfl
theorem dX9_spreads_27 : decode cX9_spreads 27 = .ok (.iconst 0, 1) := zdcg 18 zdT_dX9_spreads_0 rfl
theorem dX9_spreads_28 : decode cX9_spreads 28 = .ok (.istore 6, 2) := zdcg 19 zdT_dX9_spreads_0 rfl
theorem dX9_spreads_30 : decode cX9_spreads 30 = .ok (.iload 6, 2) := zdcg 20 zdT_dX9_spreads_0 rfl
theorem dX9_spreads_32 : decode cX9_spreads 32 = .ok (.bipush 6, 2) := zdcg 21 zdT_dX9_spreads_0 rfl
theorem dX9_spreads_34 : decode cX9_spreads 34 = .ok (.if_icmp .ge 23, 3) := zdcg 22 zdT_dX9_spreads_0 rfl
theorem dX9_spreads_37 : decode cX9_spreads 37 = .ok (.aload_n 0, 1) := zdcg 23 zdT_dX9_spreads_0 rfl
theorem dX9_spreads_38 : decode cX9_spreads 38 = .ok (.aload_n 0, 1) := zdcg 24 zdT_dX9_spreads_0 rfl
theorem zdT_dX9_spreads_39 : zdch cX9_spreads [(39, (.getfield 205, 3)), (42, (.iload 6, 2)), (44, (.invokevirtual 175, 3)), (47, (.iload_n 3, 1)), (48, (.if_icmp .le 9, 3)), (51, (.iinc 6 1, 3)), (54, (.goto (-24), 3)), (57, (.iload 4, 2)), (59, (.iload 6, 2)), (61, (.if_icmp .ne 16, 3)), (64, (.aload_n 0, 1)), (65, (.aload_n 1, 1)), (66, (.iload_n 2, 1)), (67, (.iload_n 3, 1)), (68, (.iconst 1, 1)), (69, (.iadd, 1)), (70, (.iconst 0, 1)), (71, (.iload 5, 2)), (73, (.invokevirtual 227, 3)), (76, (.return_, 1)), (77, (.iload 4, 2)), (79, (.istore 7, 2)), (81, (.iload 7, 2)), (83, (.iload 6, 2)), (85, (.if_icmp .ge 90, 3))] = true := by decide +kernel
theorem dX9_spreads_39 : decode cX9_spreads 39 = .ok (.getfield 205, 3) := zdcg 0 zdT_dX9_spreads_39 rfl
theorem dX9_spreads_42 : decode cX9_spreads 42 = .ok (.iload 6, 2) := zdcg 1 zdT_dX9_spreads_39 rfl
theorem dX9_spreads_44 : decode cX9_spreads 44 = .ok (.invokevirtual 175, 3) := zdcg 2 zdT_dX9_spreads_39 rfl
theorem dX9_spreads_47 : decode cX9_spreads 47 = .ok (.iload_n 3, 1) := zdcg 3 zdT_dX9_spreads_39 rfl
theorem dX9_spreads_48 : decode cX9_spreads 48 = .ok (.if_icmp .le 9, 3) := zdcg 4 zdT_dX9_spreads_39 rfl
theorem dX9_spreads_51 : decode cX9_spreads 51 = .ok (.iinc 6 1, 3) := zdcg 5 zdT_dX9_spreads_39 rfl
theorem dX9_spreads_54 : decode cX9_spreads 54 = .ok (.goto (-24), 3) := zdcg 6 zdT_dX9_spreads_39 rfl
theorem dX9_spreads_57 : decode cX9_spreads 57 = .ok (.iload 4, 2) := zdcg 7 zdT_dX9_spreads_39 rfl
theorem dX9_spreads_59 : decode cX9_spreads 59 = .ok (.iload 6, 2) := zdcg 8 zdT_dX9_spreads_39 rfl
theorem dX9_spreads_61 : decode cX9_spreads 61 = .ok (.if_icmp .ne 16, 3) := zdcg 9 zdT_dX9_spreads_39 rfl
theorem dX9_spreads_64 : decode cX9_spreads 64 = .ok (.aload_n 0, 1) := zdcg 10 zdT_dX9_spreads_39 rfl
theorem dX9_spreads_65 : decode cX9_spreads 65 = .ok (.aload_n 1, 1) := zdcg 11 zdT_dX9_spreads_39 rfl
theorem dX9_spreads_66 : decode cX9_spreads 66 = .ok (.iload_n 2, 1) := zdcg 12 zdT_dX9_spreads_39 rfl
theorem dX9_spreads_67 : decode cX9_spreads 67 = .ok (.iload_n 3, 1) := zdcg 13 zdT_dX9_spreads_39 rfl
theorem dX9_spreads_68 : decode cX9_spreads 68 = .ok (.iconst 1, 1) := zdcg 14 zdT_dX9_spreads_39 rfl
theorem dX9_spreads_69 : decode cX9_spreads 69 = .ok (.iadd, 1) := zdcg 15 zdT_dX9_spreads_39 rfl
theorem dX9_spreads_70 : decode cX9_spreads 70 = .ok (.iconst 0, 1) := zdcg 16 zdT_dX9_spreads_39 rfl
theorem dX9_spreads_71 : decode cX9_spreads 71 = .ok (.iload 5, 2) := zdcg 17 zdT_dX9_spreads_39 rfl
theorem dX9_spreads_73 : decode cX9_spreads 73 = .ok (.invokevirtual 227, 3) := zdcg 18 zdT_dX9_spreads_39 rfl
theorem dX9_spreads_76 : decode cX9_spreads 76 = .ok (.return_, 1) := zdcg 19 zdT_dX9_spreads_39 rfl
theorem dX9_spreads_77 : decode cX9_spreads 77 = .ok (.iload 4, 2) := zdcg 20 zdT_dX9_spreads_39 rfl
theorem dX9_spreads_79 : decode cX9_spreads 79 = .ok (.istore 7, 2) := zdcg 21 zdT_dX9_spreads_39 rfl
theorem dX9_spreads_81 : decode cX9_spreads 81 = .ok (.iload 7, 2) := zdcg 22 zdT_dX9_spreads_39 rfl
theorem dX9_spreads_83 : decode cX9_spreads 83 = .ok (.iload 6, 2) := zdcg 23 zdT_dX9_spreads_39 rfl
theorem dX9_spreads_85 : decode cX9_spreads 85 = .ok (.if_icmp .ge 90, 3) := zdcg 24 zdT_dX9_spreads_39 rfl
theorem zdT_dX9_spreads_88 : zdch cX9_spreads [(88, (.aload_n 0, 1)), (89, (.aload_n 0, 1)), (90, (.iload 4, 2)), (92, (.iload_n 3, 1)), (93, (.invokevirtual 214, 3)), (96, (.aload_n 0, 1)), (97, (.iload 7, 2)), (99, (.iload_n 3, 1)), (100, (.invokevirtual 214, 3)), (103, (.invokevirtual 231, 3)), (106, (.aload_n 0, 1)), (107, (.getfield 81, 3)), (110, (.aload_n 0, 1)), (111, (.getfield 78, 3)), (114, (.aload_n 0, 1)), (115, (.iload 4, 2)), (117, (.iload_n 3, 1)), (118, (.invokevirtual 214, 3)), (121, (.iaload, 1)), (122, (.iload 4, 2)), (124, (.iastore, 1)), (125, (.aload_n 0, 1)), (126, (.aload_n 1, 1)), (127, (.iload_n 2, 1)), (128, (.iload_n 3, 1))] = true := by decide +kernel
theorem dX9_spreads_88 : decode cX9_spreads 88 = .ok (.aload_n 0, 1) := zdcg 0 zdT_dX9_spreads_88 rfl
theorem dX9_spreads_89 : decode cX9_spreads 89 = .ok (.aload_n 0, 1) := zdcg 1 zdT_dX9_spreads_88 rfl
theorem dX9_spreads_90 : decode cX9_spreads 90 = .ok (.iload 4, 2) := zdcg 2 zdT_dX9_spreads_88 rfl
theorem dX9_spreads_92 : decode cX9_spreads 92 = .ok (.iload_n 3, 1) := zdcg 3 zdT_dX9_spreads_88 rfl
theorem dX9_spreads_93 : decode cX9_spreads 93 = .ok (.invokevirtual 214, 3) := zdcg 4 zdT_dX9_spreads_88 rfl
theorem dX9_spreads_96 : decode cX9_spreads 96 = .ok (.aload_n 0, 1) := zdcg 5 zdT_dX9_spreads_88 rfl
theorem dX9_spreads_97 : decode cX9_spreads 97 = .ok (.iload 7, 2) := zdcg 6 zdT_dX9_spreads_88 rfl
theorem dX9_spreads_99 : decode cX9_spreads 99 = .ok (.iload_n 3, 1) := zdcg 7 zdT_dX9_spreads_88 rfl
theorem dX9_spreads_100 : decode cX9_spreads 100 = .ok (.invokevirtual 214, 3) := zdcg 8 zdT_dX9_spreads_88 rfl
theorem dX9_spreads_103 : decode cX9_spreads 103 = .ok (.invokevirtual 231, 3) := zdcg 9 zdT_dX9_spreads_88 rfl
theorem dX9_spreads_106 : decode cX9_spreads 106 = .ok (.aload_n 0, 1) := zdcg 10 zdT_dX9_spreads_88 rfl
theorem dX9_spreads_107 : decode cX9_spreads 107 = .ok (.getfield 81, 3) := zdcg 11 zdT_dX9_spreads_88 rfl
theorem dX9_spreads_110 : decode cX9_spreads 110 = .ok (.aload_n 0, 1) := zdcg 12 zdT_dX9_spreads_88 rfl
theorem dX9_spreads_111 : decode cX9_spreads 111 = .ok (.getfield 78, 3) := zdcg 13 zdT_dX9_spreads_88 rfl
theorem dX9_spreads_114 : decode cX9_spreads 114 = .ok (.aload_n 0, 1) := zdcg 14 zdT_dX9_spreads_88 rfl
theorem dX9_spreads_115 : decode cX9_spreads 115 = .ok (.iload 4, 2) := zdcg 15 zdT_dX9_spreads_88 rfl
theorem dX9_spreads_117 : decode cX9_spreads 117 = .ok (.iload_n 3, 1) := zdcg 16 zdT_dX9_spreads_88 rfl
theorem dX9_spreads_118 : decode cX9_spreads 118 = .ok (.invokevirtual 214, 3) := zdcg 17 zdT_dX9_spreads_88 rfl
theorem dX9_spreads_121 : decode cX9_spreads 121 = .ok (.iaload, 1) := zdcg 18 zdT_dX9_spreads_88 rfl
theorem dX9_spreads_122 : decode cX9_spreads 122 = .ok (.iload 4, 2) := zdcg 19 zdT_dX9_spreads_88 rfl
theorem dX9_spreads_124 : decode cX9_spreads 124 = .ok (.iastore, 1) := zdcg 20 zdT_dX9_spreads_88 rfl
theorem dX9_spreads_125 : decode cX9_spreads 125 = .ok (.aload_n 0, 1) := zdcg 21 zdT_dX9_spreads_88 rfl
theorem dX9_spreads_126 : decode cX9_spreads 126 = .ok (.aload_n 1, 1) := zdcg 22 zdT_dX9_spreads_88 rfl
theorem dX9_spreads_127 : decode cX9_spreads 127 = .ok (.iload_n 2, 1) := zdcg 23 zdT_dX9_spreads_88 rfl
theorem dX9_spreads_128 : decode cX9_spreads 128 = .ok (.iload_n 3, 1) := zdcg 24 zdT_dX9_spreads_88 rfl
theorem zdT_dX9_spreads_129 : zdch cX9_spreads [(129, (.iload 4, 2)), (131, (.iconst 1, 1)), (132, (.iadd, 1)), (133, (.iload 7, 2)), (135, (.iload 4, 2)), (137, (.if_icmp .ne 8, 3)), (140, (.iload 5, 2)), (142, (.goto 6, 3)), (145, (.iload 5, 2)), (147, (.ineg, 1)), (148, (.invokevirtual 227, 3)), (151, (.aload_n 0, 1)), (152, (.aload_n 0, 1)), (153, (.iload 4, 2)), (155, (.iload_n 3, 1)), (156, (.invokevirtual 214, 3)), (159, (.aload_n 0, 1)), (160, (.iload 7, 2)), (162, (.iload_n 3, 1)), (163, (.invokevirtual 214, 3)), (166, (.invokevirtual 231, 3)), (169, (.iinc 7 1, 3)), (172, (.goto (-91), 3)), (175, (.return_, 1))] = true := by decide +kernel
theorem dX9_spreads_129 : decode cX9_spreads 129 = .ok (.iload 4, 2) := zdcg 0 zdT_dX9_spreads_129 rfl
theorem dX9_spreads_131 : decode cX9_spreads 131 = .ok (.iconst 1, 1) := zdcg 1 zdT_dX9_spreads_129 rfl
theorem dX9_spreads_132 : decode cX9_spreads 132 = .ok (.iadd, 1) := zdcg 2 zdT_dX9_spreads_129 rfl
theorem dX9_spreads_133 : decode cX9_spreads 133 = .ok (.iload 7, 2) := zdcg 3 zdT_dX9_spreads_129 rfl
theorem dX9_spreads_135 : decode cX9_spreads 135 = .ok (.iload 4, 2) := zdcg 4 zdT_dX9_spreads_129 rfl
theorem dX9_spreads_137 : decode cX9_spreads 137 = .ok (.if_icmp .ne 8, 3) := zdcg 5 zdT_dX9_spreads_129 rfl
theorem dX9_spreads_140 : decode cX9_spreads 140 = .ok (.iload 5, 2) := zdcg 6 zdT_dX9_spreads_129 rfl
theorem dX9_spreads_142 : decode cX9_spreads 142 = .ok (.goto 6, 3) := zdcg 7 zdT_dX9_spreads_129 rfl
theorem dX9_spreads_145 : decode cX9_spreads 145 = .ok (.iload 5, 2) := zdcg 8 zdT_dX9_spreads_129 rfl
theorem dX9_spreads_147 : decode cX9_spreads 147 = .ok (.ineg, 1) := zdcg 9 zdT_dX9_spreads_129 rfl
theorem dX9_spreads_148 : decode cX9_spreads 148 = .ok (.invokevirtual 227, 3) := zdcg 10 zdT_dX9_spreads_129 rfl
theorem dX9_spreads_151 : decode cX9_spreads 151 = .ok (.aload_n 0, 1) := zdcg 11 zdT_dX9_spreads_129 rfl
theorem dX9_spreads_152 : decode cX9_spreads 152 = .ok (.aload_n 0, 1) := zdcg 12 zdT_dX9_spreads_129 rfl
theorem dX9_spreads_153 : decode cX9_spreads 153 = .ok (.iload 4, 2) := zdcg 13 zdT_dX9_spreads_129 rfl
theorem dX9_spreads_155 : decode cX9_spreads 155 = .ok (.iload_n 3, 1) := zdcg 14 zdT_dX9_spreads_129 rfl
theorem dX9_spreads_156 : decode cX9_spreads 156 = .ok (.invokevirtual 214, 3) := zdcg 15 zdT_dX9_spreads_129 rfl
theorem dX9_spreads_159 : decode cX9_spreads 159 = .ok (.aload_n 0, 1) := zdcg 16 zdT_dX9_spreads_129 rfl
theorem dX9_spreads_160 : decode cX9_spreads 160 = .ok (.iload 7, 2) := zdcg 17 zdT_dX9_spreads_129 rfl
theorem dX9_spreads_162 : decode cX9_spreads 162 = .ok (.iload_n 3, 1) := zdcg 18 zdT_dX9_spreads_129 rfl
theorem dX9_spreads_163 : decode cX9_spreads 163 = .ok (.invokevirtual 214, 3) := zdcg 19 zdT_dX9_spreads_129 rfl
theorem dX9_spreads_166 : decode cX9_spreads 166 = .ok (.invokevirtual 231, 3) := zdcg 20 zdT_dX9_spreads_129 rfl
theorem dX9_spreads_169 : decode cX9_spreads 169 = .ok (.iinc 7 1, 3) := zdcg 21 zdT_dX9_spreads_129 rfl
theorem dX9_spreads_172 : decode cX9_spreads 172 = .ok (.goto (-91), 3) := zdcg 22 zdT_dX9_spreads_129 rfl
theorem dX9_spreads_175 : decode cX9_spreads 175 = .ok (.return_, 1) := zdcg 23 zdT_dX9_spreads_129 rfl
theorem zdT_dX9_swaps_0 : zdch cX9_swaps [(0, (.aload_n 0, 1)), (1, (.getfield 78, 3)), (4, (.iload_n 1, 1)), (5, (.iaload, 1)), (6, (.istore_n 3, 1)), (7, (.aload_n 0, 1)), (8, (.getfield 78, 3)), (11, (.iload_n 1, 1)), (12, (.aload_n 0, 1)), (13, (.getfield 78, 3)), (16, (.iload_n 2, 1)), (17, (.iaload, 1)), (18, (.iastore, 1)), (19, (.aload_n 0, 1)), (20, (.getfield 78, 3)), (23, (.iload_n 2, 1)), (24, (.iload_n 3, 1)), (25, (.iastore, 1)), (26, (.return_, 1))] = true := by decide +kernel
theorem dX9_swaps_0 : decode cX9_swaps 0 = .ok (.aload_n 0, 1) := zdcg 0 zdT_dX9_swaps_0 rfl
theorem dX9_swaps_1 : decode cX9_swaps 1 = .ok (.getfield 78, 3) := zdcg 1 zdT_dX9_swaps_0 rfl
theorem dX9_swaps_4 : decode cX9_swaps 4 = .ok (.iload_n 1, 1) := zdcg 2 zdT_dX9_swaps_0 rfl
theorem dX9_swaps_5 : decode cX9_swaps 5 = .ok (.iaload, 1) := zdcg 3 zdT_dX9_swaps_0 rfl
theorem dX9_swaps_6 : decode cX9_swaps 6 = .ok (.istore_n 3, 1) := zdcg 4 zdT_dX9_swaps_0 rfl
theorem dX9_swaps_7 : decode cX9_swaps 7 = .ok (.aload_n 0, 1) := zdcg 5 zdT_dX9_swaps_0 rfl
theorem dX9_swaps_8 : decode cX9_swaps 8 = .ok (.getfield 78, 3) := zdcg 6 zdT_dX9_swaps_0 rfl
theorem dX9_swaps_11 : decode cX9_swaps 11 = .ok (.iload_n 1, 1) := zdcg 7 zdT_dX9_swaps_0 rfl
theorem dX9_swaps_12 : decode cX9_swaps 12 = .ok (.aload_n 0, 1) := zdcg 8 zdT_dX9_swaps_0 rfl
theorem dX9_swaps_13 : decode cX9_swaps 13 = .ok (.getfield 78, 3) := zdcg 9 zdT_dX9_swaps_0 rfl
theorem dX9_swaps_16 : decode cX9_swaps 16 = .ok (.iload_n 2, 1) := zdcg 10 zdT_dX9_swaps_0 rfl
theorem dX9_swaps_17 : decode cX9_swaps 17 = .ok (.iaload, 1) := zdcg 11 zdT_dX9_swaps_0 rfl
theorem dX9_swaps_18 : decode cX9_swaps 18 = .ok (.iastore, 1) := zdcg 12 zdT_dX9_swaps_0 rfl
theorem dX9_swaps_19 : decode cX9_swaps 19 = .ok (.aload_n 0, 1) := zdcg 13 zdT_dX9_swaps_0 rfl
theorem dX9_swaps_20 : decode cX9_swaps 20 = .ok (.getfield 78, 3) := zdcg 14 zdT_dX9_swaps_0 rfl
theorem dX9_swaps_23 : decode cX9_swaps 23 = .ok (.iload_n 2, 1) := zdcg 15 zdT_dX9_swaps_0 rfl
theorem dX9_swaps_24 : decode cX9_swaps 24 = .ok (.iload_n 3, 1) := zdcg 16 zdT_dX9_swaps_0 rfl
theorem dX9_swaps_25 : decode cX9_swaps 25 = .ok (.iastore, 1) := zdcg 17 zdT_dX9_swaps_0 rfl
theorem dX9_swaps_26 : decode cX9_swaps 26 = .ok (.return_, 1) := zdcg 18 zdT_dX9_swaps_0 rfl
theorem zdT_dX9_sumsOf_0 : zdch cX9_sumsOf [(0, (.iconst 0, 1)), (1, (.istore_n 2, 1)), (2, (.iload_n 2, 1)), (3, (.sipush 12000, 3)), (6, (.if_icmp .ge 13, 3)), (9, (.aload_n 1, 1)), (10, (.iload_n 2, 1)), (11, (.iconst 0, 1)), (12, (.iastore, 1)), (13, (.iinc 2 1, 3)), (16, (.goto (-14), 3)), (19, (.iconst 0, 1)), (20, (.istore_n 2, 1)), (21, (.iload_n 2, 1)), (22, (.aload_n 0, 1)), (23, (.getfield 56, 3)), (26, (.aload_n 0, 1)), (27, (.getfield 205, 3)), (30, (.iaload, 1)), (31, (.if_icmp .ge 70, 3)), (34, (.iconst 0, 1)), (35, (.istore_n 3, 1)), (36, (.iload_n 3, 1)), (37, (.aload_n 0, 1)), (38, (.getfield 169, 3))] = true := by decide +kernel
theorem dX9_sumsOf_0 : decode cX9_sumsOf 0 = .ok (.iconst 0, 1) := zdcg 0 zdT_dX9_sumsOf_0 rfl
theorem dX9_sumsOf_1 : decode cX9_sumsOf 1 = .ok (.istore_n 2, 1) := zdcg 1 zdT_dX9_sumsOf_0 rfl
theorem dX9_sumsOf_2 : decode cX9_sumsOf 2 = .ok (.iload_n 2, 1) := zdcg 2 zdT_dX9_sumsOf_0 rfl
theorem dX9_sumsOf_3 : decode cX9_sumsOf 3 = .ok (.sipush 12000, 3) := zdcg 3 zdT_dX9_sumsOf_0 rfl
theorem dX9_sumsOf_6 : decode cX9_sumsOf 6 = .ok (.if_icmp .ge 13, 3) := zdcg 4 zdT_dX9_sumsOf_0 rfl
theorem dX9_sumsOf_9 : decode cX9_sumsOf 9 = .ok (.aload_n 1, 1) := zdcg 5 zdT_dX9_sumsOf_0 rfl
theorem dX9_sumsOf_10 : decode cX9_sumsOf 10 = .ok (.iload_n 2, 1) := zdcg 6 zdT_dX9_sumsOf_0 rfl
theorem dX9_sumsOf_11 : decode cX9_sumsOf 11 = .ok (.iconst 0, 1) := zdcg 7 zdT_dX9_sumsOf_0 rfl
theorem dX9_sumsOf_12 : decode cX9_sumsOf 12 = .ok (.iastore, 1) := zdcg 8 zdT_dX9_sumsOf_0 rfl
theorem dX9_sumsOf_13 : decode cX9_sumsOf 13 = .ok (.iinc 2 1, 3) := zdcg 9 zdT_dX9_sumsOf_0 rfl
theorem dX9_sumsOf_16 : decode cX9_sumsOf 16 = .ok (.goto (-14), 3) := zdcg 10 zdT_dX9_sumsOf_0 rfl
theorem dX9_sumsOf_19 : decode cX9_sumsOf 19 = .ok (.iconst 0, 1) := zdcg 11 zdT_dX9_sumsOf_0 rfl
theorem dX9_sumsOf_20 : decode cX9_sumsOf 20 = .ok (.istore_n 2, 1) := zdcg 12 zdT_dX9_sumsOf_0 rfl
theorem dX9_sumsOf_21 : decode cX9_sumsOf 21 = .ok (.iload_n 2, 1) := zdcg 13 zdT_dX9_sumsOf_0 rfl
theorem dX9_sumsOf_22 : decode cX9_sumsOf 22 = .ok (.aload_n 0, 1) := zdcg 14 zdT_dX9_sumsOf_0 rfl
theorem dX9_sumsOf_23 : decode cX9_sumsOf 23 = .ok (.getfield 56, 3) := zdcg 15 zdT_dX9_sumsOf_0 rfl
theorem dX9_sumsOf_26 : decode cX9_sumsOf 26 = .ok (.aload_n 0, 1) := zdcg 16 zdT_dX9_sumsOf_0 rfl
theorem dX9_sumsOf_27 : decode cX9_sumsOf 27 = .ok (.getfield 205, 3) := zdcg 17 zdT_dX9_sumsOf_0 rfl
theorem dX9_sumsOf_30 : decode cX9_sumsOf 30 = .ok (.iaload, 1) := zdcg 18 zdT_dX9_sumsOf_0 rfl
theorem dX9_sumsOf_31 : decode cX9_sumsOf 31 = .ok (.if_icmp .ge 70, 3) := zdcg 19 zdT_dX9_sumsOf_0 rfl
theorem dX9_sumsOf_34 : decode cX9_sumsOf 34 = .ok (.iconst 0, 1) := zdcg 20 zdT_dX9_sumsOf_0 rfl
theorem dX9_sumsOf_35 : decode cX9_sumsOf 35 = .ok (.istore_n 3, 1) := zdcg 21 zdT_dX9_sumsOf_0 rfl
theorem dX9_sumsOf_36 : decode cX9_sumsOf 36 = .ok (.iload_n 3, 1) := zdcg 22 zdT_dX9_sumsOf_0 rfl
theorem dX9_sumsOf_37 : decode cX9_sumsOf 37 = .ok (.aload_n 0, 1) := zdcg 23 zdT_dX9_sumsOf_0 rfl
theorem dX9_sumsOf_38 : decode cX9_sumsOf 38 = .ok (.getfield 169, 3) := zdcg 24 zdT_dX9_sumsOf_0 rfl
theorem zdT_dX9_sumsOf_41 : zdch cX9_sumsOf [(41, (.if_icmp .ge 41, 3)), (44, (.aload_n 0, 1)), (45, (.getfield 78, 3)), (48, (.iload_n 3, 1)), (49, (.aload_n 0, 1)), (50, (.getfield 84, 3)), (53, (.aload_n 0, 1)), (54, (.getfield 59, 3)), (57, (.bipush 6, 2)), (59, (.aload_n 0, 1)), (60, (.getfield 53, 3)), (63, (.aload_n 0, 1)), (64, (.getfield 205, 3)), (67, (.iaload, 1)), (68, (.iload_n 2, 1)), (69, (.iadd, 1)), (70, (.imul, 1)), (71, (.iload_n 3, 1)), (72, (.iadd, 1)), (73, (.iaload, 1)), (74, (.iaload, 1)), (75, (.iastore, 1)), (76, (.iinc 3 1, 3)), (79, (.goto (-43), 3)), (82, (.aload_n 0, 1))] = true := by decide +kernel
theorem dX9_sumsOf_41 : decode cX9_sumsOf 41 = .ok (.if_icmp .ge 41, 3) := zdcg 0 zdT_dX9_sumsOf_41 rfl
theorem dX9_sumsOf_44 : decode cX9_sumsOf 44 = .ok (.aload_n 0, 1) := zdcg 1 zdT_dX9_sumsOf_41 rfl
theorem dX9_sumsOf_45 : decode cX9_sumsOf 45 = .ok (.getfield 78, 3) := zdcg 2 zdT_dX9_sumsOf_41 rfl
theorem dX9_sumsOf_48 : decode cX9_sumsOf 48 = .ok (.iload_n 3, 1) := zdcg 3 zdT_dX9_sumsOf_41 rfl
theorem dX9_sumsOf_49 : decode cX9_sumsOf 49 = .ok (.aload_n 0, 1) := zdcg 4 zdT_dX9_sumsOf_41 rfl
theorem dX9_sumsOf_50 : decode cX9_sumsOf 50 = .ok (.getfield 84, 3) := zdcg 5 zdT_dX9_sumsOf_41 rfl
theorem dX9_sumsOf_53 : decode cX9_sumsOf 53 = .ok (.aload_n 0, 1) := zdcg 6 zdT_dX9_sumsOf_41 rfl
theorem dX9_sumsOf_54 : decode cX9_sumsOf 54 = .ok (.getfield 59, 3) := zdcg 7 zdT_dX9_sumsOf_41 rfl
theorem dX9_sumsOf_57 : decode cX9_sumsOf 57 = .ok (.bipush 6, 2) := zdcg 8 zdT_dX9_sumsOf_41 rfl
theorem dX9_sumsOf_59 : decode cX9_sumsOf 59 = .ok (.aload_n 0, 1) := zdcg 9 zdT_dX9_sumsOf_41 rfl
theorem dX9_sumsOf_60 : decode cX9_sumsOf 60 = .ok (.getfield 53, 3) := zdcg 10 zdT_dX9_sumsOf_41 rfl
theorem dX9_sumsOf_63 : decode cX9_sumsOf 63 = .ok (.aload_n 0, 1) := zdcg 11 zdT_dX9_sumsOf_41 rfl
theorem dX9_sumsOf_64 : decode cX9_sumsOf 64 = .ok (.getfield 205, 3) := zdcg 12 zdT_dX9_sumsOf_41 rfl
theorem dX9_sumsOf_67 : decode cX9_sumsOf 67 = .ok (.iaload, 1) := zdcg 13 zdT_dX9_sumsOf_41 rfl
theorem dX9_sumsOf_68 : decode cX9_sumsOf 68 = .ok (.iload_n 2, 1) := zdcg 14 zdT_dX9_sumsOf_41 rfl
theorem dX9_sumsOf_69 : decode cX9_sumsOf 69 = .ok (.iadd, 1) := zdcg 15 zdT_dX9_sumsOf_41 rfl
theorem dX9_sumsOf_70 : decode cX9_sumsOf 70 = .ok (.imul, 1) := zdcg 16 zdT_dX9_sumsOf_41 rfl
theorem dX9_sumsOf_71 : decode cX9_sumsOf 71 = .ok (.iload_n 3, 1) := zdcg 17 zdT_dX9_sumsOf_41 rfl
theorem dX9_sumsOf_72 : decode cX9_sumsOf 72 = .ok (.iadd, 1) := zdcg 18 zdT_dX9_sumsOf_41 rfl
theorem dX9_sumsOf_73 : decode cX9_sumsOf 73 = .ok (.iaload, 1) := zdcg 19 zdT_dX9_sumsOf_41 rfl
theorem dX9_sumsOf_74 : decode cX9_sumsOf 74 = .ok (.iaload, 1) := zdcg 20 zdT_dX9_sumsOf_41 rfl
theorem dX9_sumsOf_75 : decode cX9_sumsOf 75 = .ok (.iastore, 1) := zdcg 21 zdT_dX9_sumsOf_41 rfl
theorem dX9_sumsOf_76 : decode cX9_sumsOf 76 = .ok (.iinc 3 1, 3) := zdcg 22 zdT_dX9_sumsOf_41 rfl
theorem dX9_sumsOf_79 : decode cX9_sumsOf 79 = .ok (.goto (-43), 3) := zdcg 23 zdT_dX9_sumsOf_41 rfl
theorem dX9_sumsOf_82 : decode cX9_sumsOf 82 = .ok (.aload_n 0, 1) := zdcg 24 zdT_dX9_sumsOf_41 rfl
theorem zdT_dX9_sumsOf_83 : zdch cX9_sumsOf [(83, (.aload_n 1, 1)), (84, (.sipush 720, 3)), (87, (.iload_n 2, 1)), (88, (.imul, 1)), (89, (.iconst 0, 1)), (90, (.iconst 0, 1)), (91, (.iconst 1, 1)), (92, (.invokevirtual 227, 3)), (95, (.iinc 2 1, 3)), (98, (.goto (-77), 3)), (101, (.return_, 1))] = true := by decide +kernel
theorem dX9_sumsOf_83 : decode cX9_sumsOf 83 = .ok (.aload_n 1, 1) := zdcg 0 zdT_dX9_sumsOf_83 rfl
theorem dX9_sumsOf_84 : decode cX9_sumsOf 84 = .ok (.sipush 720, 3) := zdcg 1 zdT_dX9_sumsOf_83 rfl
theorem dX9_sumsOf_87 : decode cX9_sumsOf 87 = .ok (.iload_n 2, 1) := zdcg 2 zdT_dX9_sumsOf_83 rfl
theorem dX9_sumsOf_88 : decode cX9_sumsOf 88 = .ok (.imul, 1) := zdcg 3 zdT_dX9_sumsOf_83 rfl
theorem dX9_sumsOf_89 : decode cX9_sumsOf 89 = .ok (.iconst 0, 1) := zdcg 4 zdT_dX9_sumsOf_83 rfl
theorem dX9_sumsOf_90 : decode cX9_sumsOf 90 = .ok (.iconst 0, 1) := zdcg 5 zdT_dX9_sumsOf_83 rfl
theorem dX9_sumsOf_91 : decode cX9_sumsOf 91 = .ok (.iconst 1, 1) := zdcg 6 zdT_dX9_sumsOf_83 rfl
theorem dX9_sumsOf_92 : decode cX9_sumsOf 92 = .ok (.invokevirtual 227, 3) := zdcg 7 zdT_dX9_sumsOf_83 rfl
theorem dX9_sumsOf_95 : decode cX9_sumsOf 95 = .ok (.iinc 2 1, 3) := zdcg 8 zdT_dX9_sumsOf_83 rfl
theorem dX9_sumsOf_98 : decode cX9_sumsOf 98 = .ok (.goto (-77), 3) := zdcg 9 zdT_dX9_sumsOf_83 rfl
theorem dX9_sumsOf_101 : decode cX9_sumsOf 101 = .ok (.return_, 1) := zdcg 10 zdT_dX9_sumsOf_83 rfl
theorem zdT_dX9_begins_0 : zdch cX9_begins [(0, (.iconst 0, 1)), (1, (.istore_n 2, 1)), (2, (.iload_n 2, 1)), (3, (.aload_n 0, 1)), (4, (.getfield 220, 3)), (7, (.if_icmp .ge 21, 3)), (10, (.aload_n 0, 1)), (11, (.getfield 66, 3)), (14, (.aload_n 0, 1)), (15, (.getfield 69, 3)), (18, (.iload_n 2, 1)), (19, (.iaload, 1)), (20, (.iconst 0, 1)), (21, (.iastore, 1)), (22, (.iinc 2 1, 3)), (25, (.goto (-23), 3)), (28, (.aload_n 0, 1)), (29, (.iconst 0, 1)), (30, (.putfield 220, 3)), (33, (.aload_n 0, 1)), (34, (.iload_n 1, 1)), (35, (.putfield 205, 3)), (38, (.iconst 1, 1)), (39, (.istore_n 2, 1)), (40, (.iload_n 2, 1))] = true := by decide +kernel
theorem dX9_begins_0 : decode cX9_begins 0 = .ok (.iconst 0, 1) := zdcg 0 zdT_dX9_begins_0 rfl
theorem dX9_begins_1 : decode cX9_begins 1 = .ok (.istore_n 2, 1) := zdcg 1 zdT_dX9_begins_0 rfl
theorem dX9_begins_2 : decode cX9_begins 2 = .ok (.iload_n 2, 1) := zdcg 2 zdT_dX9_begins_0 rfl
theorem dX9_begins_3 : decode cX9_begins 3 = .ok (.aload_n 0, 1) := zdcg 3 zdT_dX9_begins_0 rfl
theorem dX9_begins_4 : decode cX9_begins 4 = .ok (.getfield 220, 3) := zdcg 4 zdT_dX9_begins_0 rfl
theorem dX9_begins_7 : decode cX9_begins 7 = .ok (.if_icmp .ge 21, 3) := zdcg 5 zdT_dX9_begins_0 rfl
theorem dX9_begins_10 : decode cX9_begins 10 = .ok (.aload_n 0, 1) := zdcg 6 zdT_dX9_begins_0 rfl
theorem dX9_begins_11 : decode cX9_begins 11 = .ok (.getfield 66, 3) := zdcg 7 zdT_dX9_begins_0 rfl
theorem dX9_begins_14 : decode cX9_begins 14 = .ok (.aload_n 0, 1) := zdcg 8 zdT_dX9_begins_0 rfl
theorem dX9_begins_15 : decode cX9_begins 15 = .ok (.getfield 69, 3) := zdcg 9 zdT_dX9_begins_0 rfl
theorem dX9_begins_18 : decode cX9_begins 18 = .ok (.iload_n 2, 1) := zdcg 10 zdT_dX9_begins_0 rfl
theorem dX9_begins_19 : decode cX9_begins 19 = .ok (.iaload, 1) := zdcg 11 zdT_dX9_begins_0 rfl
theorem dX9_begins_20 : decode cX9_begins 20 = .ok (.iconst 0, 1) := zdcg 12 zdT_dX9_begins_0 rfl
theorem dX9_begins_21 : decode cX9_begins 21 = .ok (.iastore, 1) := zdcg 13 zdT_dX9_begins_0 rfl
theorem dX9_begins_22 : decode cX9_begins 22 = .ok (.iinc 2 1, 3) := zdcg 14 zdT_dX9_begins_0 rfl
theorem dX9_begins_25 : decode cX9_begins 25 = .ok (.goto (-23), 3) := zdcg 15 zdT_dX9_begins_0 rfl
theorem dX9_begins_28 : decode cX9_begins 28 = .ok (.aload_n 0, 1) := zdcg 16 zdT_dX9_begins_0 rfl
theorem dX9_begins_29 : decode cX9_begins 29 = .ok (.iconst 0, 1) := zdcg 17 zdT_dX9_begins_0 rfl
theorem dX9_begins_30 : decode cX9_begins 30 = .ok (.putfield 220, 3) := zdcg 18 zdT_dX9_begins_0 rfl
theorem dX9_begins_33 : decode cX9_begins 33 = .ok (.aload_n 0, 1) := zdcg 19 zdT_dX9_begins_0 rfl
theorem dX9_begins_34 : decode cX9_begins 34 = .ok (.iload_n 1, 1) := zdcg 20 zdT_dX9_begins_0 rfl
theorem dX9_begins_35 : decode cX9_begins 35 = .ok (.putfield 205, 3) := zdcg 21 zdT_dX9_begins_0 rfl
theorem dX9_begins_38 : decode cX9_begins 38 = .ok (.iconst 1, 1) := zdcg 22 zdT_dX9_begins_0 rfl
theorem dX9_begins_39 : decode cX9_begins 39 = .ok (.istore_n 2, 1) := zdcg 23 zdT_dX9_begins_0 rfl
theorem dX9_begins_40 : decode cX9_begins 40 = .ok (.iload_n 2, 1) := zdcg 24 zdT_dX9_begins_0 rfl
theorem zdT_dX9_begins_41 : zdch cX9_begins [(41, (.aload_n 0, 1)), (42, (.getfield 169, 3)), (45, (.if_icmp .gt 16, 3)), (48, (.aload_n 0, 1)), (49, (.getfield 84, 3)), (52, (.iload_n 2, 1)), (53, (.iload_n 2, 1)), (54, (.iastore, 1)), (55, (.iinc 2 1, 3)), (58, (.goto (-18), 3)), (61, (.aload_n 0, 1)), (62, (.aload_n 0, 1)), (63, (.getfield 72, 3)), (66, (.invokevirtual 234, 3)), (69, (.return_, 1))] = true := by decide +kernel
theorem dX9_begins_41 : decode cX9_begins 41 = .ok (.aload_n 0, 1) := zdcg 0 zdT_dX9_begins_41 rfl
theorem dX9_begins_42 : decode cX9_begins 42 = .ok (.getfield 169, 3) := zdcg 1 zdT_dX9_begins_41 rfl
theorem dX9_begins_45 : decode cX9_begins 45 = .ok (.if_icmp .gt 16, 3) := zdcg 2 zdT_dX9_begins_41 rfl
theorem dX9_begins_48 : decode cX9_begins 48 = .ok (.aload_n 0, 1) := zdcg 3 zdT_dX9_begins_41 rfl
theorem dX9_begins_49 : decode cX9_begins 49 = .ok (.getfield 84, 3) := zdcg 4 zdT_dX9_begins_41 rfl
theorem dX9_begins_52 : decode cX9_begins 52 = .ok (.iload_n 2, 1) := zdcg 5 zdT_dX9_begins_41 rfl
theorem dX9_begins_53 : decode cX9_begins 53 = .ok (.iload_n 2, 1) := zdcg 6 zdT_dX9_begins_41 rfl
theorem dX9_begins_54 : decode cX9_begins 54 = .ok (.iastore, 1) := zdcg 7 zdT_dX9_begins_41 rfl
theorem dX9_begins_55 : decode cX9_begins 55 = .ok (.iinc 2 1, 3) := zdcg 8 zdT_dX9_begins_41 rfl
theorem dX9_begins_58 : decode cX9_begins 58 = .ok (.goto (-18), 3) := zdcg 9 zdT_dX9_begins_41 rfl
theorem dX9_begins_61 : decode cX9_begins 61 = .ok (.aload_n 0, 1) := zdcg 10 zdT_dX9_begins_41 rfl
theorem dX9_begins_62 : decode cX9_begins 62 = .ok (.aload_n 0, 1) := zdcg 11 zdT_dX9_begins_41 rfl
theorem dX9_begins_63 : decode cX9_begins 63 = .ok (.getfield 72, 3) := zdcg 12 zdT_dX9_begins_41 rfl
theorem dX9_begins_66 : decode cX9_begins 66 = .ok (.invokevirtual 234, 3) := zdcg 13 zdT_dX9_begins_41 rfl
theorem dX9_begins_69 : decode cX9_begins 69 = .ok (.return_, 1) := zdcg 14 zdT_dX9_begins_41 rfl
theorem zdT_dX9_form_0 : zdch cX9_form [(0, (.iconst 0, 1)), (1, (.istore 5, 2)), (3, (.iconst 0, 1)), (4, (.istore 6, 2)), (6, (.iload 6, 2)), (8, (.aload_n 0, 1)), (9, (.getfield 220, 3)), (12, (.if_icmp .ge 36, 3)), (15, (.iload 5, 2)), (17, (.aload_n 1, 1)), (18, (.sipush 720, 3)), (21, (.iload_n 2, 1)), (22, (.imul, 1)), (23, (.iload 6, 2)), (25, (.iadd, 1)), (26, (.iaload, 1)), (27, (.aload_n 3, 1)), (28, (.sipush 720, 3)), (31, (.iload 4, 2)), (33, (.imul, 1)), (34, (.iload 6, 2)), (36, (.iadd, 1)), (37, (.iaload, 1)), (38, (.imul, 1)), (39, (.iadd, 1))] = true := by decide +kernel
theorem dX9_form_0 : decode cX9_form 0 = .ok (.iconst 0, 1) := zdcg 0 zdT_dX9_form_0 rfl
theorem dX9_form_1 : decode cX9_form 1 = .ok (.istore 5, 2) := zdcg 1 zdT_dX9_form_0 rfl
theorem dX9_form_3 : decode cX9_form 3 = .ok (.iconst 0, 1) := zdcg 2 zdT_dX9_form_0 rfl
theorem dX9_form_4 : decode cX9_form 4 = .ok (.istore 6, 2) := zdcg 3 zdT_dX9_form_0 rfl
theorem dX9_form_6 : decode cX9_form 6 = .ok (.iload 6, 2) := zdcg 4 zdT_dX9_form_0 rfl
theorem dX9_form_8 : decode cX9_form 8 = .ok (.aload_n 0, 1) := zdcg 5 zdT_dX9_form_0 rfl
theorem dX9_form_9 : decode cX9_form 9 = .ok (.getfield 220, 3) := zdcg 6 zdT_dX9_form_0 rfl
theorem dX9_form_12 : decode cX9_form 12 = .ok (.if_icmp .ge 36, 3) := zdcg 7 zdT_dX9_form_0 rfl
theorem dX9_form_15 : decode cX9_form 15 = .ok (.iload 5, 2) := zdcg 8 zdT_dX9_form_0 rfl
theorem dX9_form_17 : decode cX9_form 17 = .ok (.aload_n 1, 1) := zdcg 9 zdT_dX9_form_0 rfl
theorem dX9_form_18 : decode cX9_form 18 = .ok (.sipush 720, 3) := zdcg 10 zdT_dX9_form_0 rfl
theorem dX9_form_21 : decode cX9_form 21 = .ok (.iload_n 2, 1) := zdcg 11 zdT_dX9_form_0 rfl
theorem dX9_form_22 : decode cX9_form 22 = .ok (.imul, 1) := zdcg 12 zdT_dX9_form_0 rfl
theorem dX9_form_23 : decode cX9_form 23 = .ok (.iload 6, 2) := zdcg 13 zdT_dX9_form_0 rfl
theorem dX9_form_25 : decode cX9_form 25 = .ok (.iadd, 1) := zdcg 14 zdT_dX9_form_0 rfl
theorem dX9_form_26 : decode cX9_form 26 = .ok (.iaload, 1) := zdcg 15 zdT_dX9_form_0 rfl
theorem dX9_form_27 : decode cX9_form 27 = .ok (.aload_n 3, 1) := zdcg 16 zdT_dX9_form_0 rfl
theorem dX9_form_28 : decode cX9_form 28 = .ok (.sipush 720, 3) := zdcg 17 zdT_dX9_form_0 rfl
theorem dX9_form_31 : decode cX9_form 31 = .ok (.iload 4, 2) := zdcg 18 zdT_dX9_form_0 rfl
theorem dX9_form_33 : decode cX9_form 33 = .ok (.imul, 1) := zdcg 19 zdT_dX9_form_0 rfl
theorem dX9_form_34 : decode cX9_form 34 = .ok (.iload 6, 2) := zdcg 20 zdT_dX9_form_0 rfl
theorem dX9_form_36 : decode cX9_form 36 = .ok (.iadd, 1) := zdcg 21 zdT_dX9_form_0 rfl
theorem dX9_form_37 : decode cX9_form 37 = .ok (.iaload, 1) := zdcg 22 zdT_dX9_form_0 rfl
theorem dX9_form_38 : decode cX9_form 38 = .ok (.imul, 1) := zdcg 23 zdT_dX9_form_0 rfl
theorem dX9_form_39 : decode cX9_form 39 = .ok (.iadd, 1) := zdcg 24 zdT_dX9_form_0 rfl
theorem zdT_dX9_form_40 : zdch cX9_form [(40, (.istore 5, 2)), (42, (.iinc 6 1, 3)), (45, (.goto (-39), 3)), (48, (.iload 5, 2)), (50, (.ireturn, 1))] = true := by decide +kernel
theorem dX9_form_40 : decode cX9_form 40 = .ok (.istore 5, 2) := zdcg 0 zdT_dX9_form_40 rfl
theorem dX9_form_42 : decode cX9_form 42 = .ok (.iinc 6 1, 3) := zdcg 1 zdT_dX9_form_40 rfl
theorem dX9_form_45 : decode cX9_form 45 = .ok (.goto (-39), 3) := zdcg 2 zdT_dX9_form_40 rfl
theorem dX9_form_48 : decode cX9_form 48 = .ok (.iload 5, 2) := zdcg 3 zdT_dX9_form_40 rfl
theorem dX9_form_50 : decode cX9_form 50 = .ok (.ireturn, 1) := zdcg 4 zdT_dX9_form_40 rfl
theorem zdT_dX9_power_0 : zdch cX9_power [(0, (.lconst 1, 1)), (1, (.lstore_n 3, 1)), (2, (.iload_n 0, 1)), (3, (.i2l, 1)), (4, (.lstore 5, 2)), (6, (.iload_n 1, 1)), (7, (.istore 7, 2)), (9, (.iload 7, 2)), (11, (.ifCond .le 38, 3)), (14, (.iload 7, 2)), (16, (.iconst 1, 1)), (17, (.iand, 1)), (18, (.iconst 1, 1)), (19, (.if_icmp .ne 11, 3)), (22, (.lload_n 3, 1)), (23, (.lload 5, 2)), (25, (.lmul, 1)), (26, (.iload_n 2, 1)), (27, (.i2l, 1)), (28, (.lrem, 1)), (29, (.lstore_n 3, 1)), (30, (.lload 5, 2)), (32, (.lload 5, 2)), (34, (.lmul, 1))] = true := by decide +kernel
theorem dX9_power_0 : decode cX9_power 0 = .ok (.lconst 1, 1) := zdcg 0 zdT_dX9_power_0 rfl
theorem dX9_power_1 : decode cX9_power 1 = .ok (.lstore_n 3, 1) := zdcg 1 zdT_dX9_power_0 rfl
theorem dX9_power_2 : decode cX9_power 2 = .ok (.iload_n 0, 1) := zdcg 2 zdT_dX9_power_0 rfl
theorem dX9_power_3 : decode cX9_power 3 = .ok (.i2l, 1) := zdcg 3 zdT_dX9_power_0 rfl
theorem dX9_power_4 : decode cX9_power 4 = .ok (.lstore 5, 2) := zdcg 4 zdT_dX9_power_0 rfl
theorem dX9_power_6 : decode cX9_power 6 = .ok (.iload_n 1, 1) := zdcg 5 zdT_dX9_power_0 rfl
theorem dX9_power_7 : decode cX9_power 7 = .ok (.istore 7, 2) := zdcg 6 zdT_dX9_power_0 rfl
theorem dX9_power_9 : decode cX9_power 9 = .ok (.iload 7, 2) := zdcg 7 zdT_dX9_power_0 rfl
theorem dX9_power_11 : decode cX9_power 11 = .ok (.ifCond .le 38, 3) := zdcg 8 zdT_dX9_power_0 rfl
theorem dX9_power_14 : decode cX9_power 14 = .ok (.iload 7, 2) := zdcg 9 zdT_dX9_power_0 rfl
theorem dX9_power_16 : decode cX9_power 16 = .ok (.iconst 1, 1) := zdcg 10 zdT_dX9_power_0 rfl
theorem dX9_power_17 : decode cX9_power 17 = .ok (.iand, 1) := zdcg 11 zdT_dX9_power_0 rfl
theorem dX9_power_18 : decode cX9_power 18 = .ok (.iconst 1, 1) := zdcg 12 zdT_dX9_power_0 rfl
theorem dX9_power_19 : decode cX9_power 19 = .ok (.if_icmp .ne 11, 3) := zdcg 13 zdT_dX9_power_0 rfl
theorem dX9_power_22 : decode cX9_power 22 = .ok (.lload_n 3, 1) := zdcg 14 zdT_dX9_power_0 rfl
theorem dX9_power_23 : decode cX9_power 23 = .ok (.lload 5, 2) := zdcg 15 zdT_dX9_power_0 rfl
theorem dX9_power_25 : decode cX9_power 25 = .ok (.lmul, 1) := zdcg 16 zdT_dX9_power_0 rfl
theorem dX9_power_26 : decode cX9_power 26 = .ok (.iload_n 2, 1) := zdcg 17 zdT_dX9_power_0 rfl
theorem dX9_power_27 : decode cX9_power 27 = .ok (.i2l, 1) := zdcg 18 zdT_dX9_power_0 rfl
theorem dX9_power_28 : decode cX9_power 28 = .ok (.lrem, 1) := zdcg 19 zdT_dX9_power_0 rfl
theorem dX9_power_29 : decode cX9_power 29 = .ok (.lstore_n 3, 1) := zdcg 20 zdT_dX9_power_0 rfl
theorem dX9_power_30 : decode cX9_power 30 = .ok (.lload 5, 2) := zdcg 21 zdT_dX9_power_0 rfl
theorem dX9_power_32 : decode cX9_power 32 = .ok (.lload 5, 2) := zdcg 22 zdT_dX9_power_0 rfl
theorem dX9_power_34 : decode cX9_power 34 = .ok (.lmul, 1) := zdcg 23 zdT_dX9_power_0 rfl
end
