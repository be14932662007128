section
/-! instructions, by program -/
theorem zdT_dX9_power_35 : zdch cX9_power [(35, (.iload_n 2, 1)), (36, (.i2l, 1)), (37, (.lrem, 1)), (38, (.lstore 5, 2)), (40, (.iload 7, 2)), (42, (.iconst 1, 1)), (43, (.ishr, 1)), (44, (.istore 7, 2)), (46, (.goto (-37), 3)), (49, (.lload_n 3, 1)), (50, (.l2i, 1)), (51, (.ireturn, 1))] = true := by decide +kernel
theorem dX9_power_35 : decode cX9_power 35 = .ok (.iload_n 2, 1) := zdcg 0 zdT_dX9_power_35 rfl
theorem dX9_power_36 : decode cX9_power 36 = .ok (.i2l, 1) := zdcg 1 zdT_dX9_power_35 rfl
theorem dX9_power_37 : decode cX9_power 37 = .ok (.lrem, 1) := zdcg 2 zdT_dX9_power_35 rfl
theorem dX9_power_38 : decode cX9_power 38 = .ok (.lstore 5, 2) := zdcg 3 zdT_dX9_power_35 rfl
theorem dX9_power_40 : decode cX9_power 40 = .ok (.iload 7, 2) := zdcg 4 zdT_dX9_power_35 rfl
theorem dX9_power_42 : decode cX9_power 42 = .ok (.iconst 1, 1) := zdcg 5 zdT_dX9_power_35 rfl
theorem dX9_power_43 : decode cX9_power 43 = .ok (.ishr, 1) := zdcg 6 zdT_dX9_power_35 rfl
theorem dX9_power_44 : decode cX9_power 44 = .ok (.istore 7, 2) := zdcg 7 zdT_dX9_power_35 rfl
theorem dX9_power_46 : decode cX9_power 46 = .ok (.goto (-37), 3) := zdcg 8 zdT_dX9_power_35 rfl
theorem dX9_power_49 : decode cX9_power 49 = .ok (.lload_n 3, 1) := zdcg 9 zdT_dX9_power_35 rfl
theorem dX9_power_50 : decode cX9_power 50 = .ok (.l2i, 1) := zdcg 10 zdT_dX9_power_35 rfl
theorem dX9_power_51 : decode cX9_power 51 = .ok (.ireturn, 1) := zdcg 11 zdT_dX9_power_35 rfl
theorem zdT_dX9_rankOf_0 : zdch cX9_rankOf [(0, (.iconst 0, 1)), (1, (.istore_n 2, 1)), (2, (.iconst 0, 1)), (3, (.istore_n 3, 1)), (4, (.iload_n 3, 1)), (5, (.iload_n 1, 1)), (6, (.if_icmp .ge 257, 3)), (9, (.iload_n 2, 1)), (10, (.iload_n 1, 1)), (11, (.if_icmp .ge 252, 3)), (14, (.iload_n 2, 1)), (15, (.istore 4, 2)), (17, (.iload 4, 2)), (19, (.iload_n 1, 1)), (20, (.if_icmp .ge 24, 3)), (23, (.aload_n 0, 1)), (24, (.getfield 87, 3)), (27, (.bipush 16, 2)), (29, (.iload 4, 2)), (31, (.imul, 1)), (32, (.iload_n 3, 1)), (33, (.iadd, 1)), (34, (.iaload, 1)), (35, (.ifCond .ne 9, 3)), (38, (.iinc 4 1, 3))] = true := by decide +kernel
theorem dX9_rankOf_0 : decode cX9_rankOf 0 = .ok (.iconst 0, 1) := zdcg 0 zdT_dX9_rankOf_0 rfl
theorem dX9_rankOf_1 : decode cX9_rankOf 1 = .ok (.istore_n 2, 1) := zdcg 1 zdT_dX9_rankOf_0 rfl
theorem dX9_rankOf_2 : decode cX9_rankOf 2 = .ok (.iconst 0, 1) := zdcg 2 zdT_dX9_rankOf_0 rfl
theorem dX9_rankOf_3 : decode cX9_rankOf 3 = .ok (.istore_n 3, 1) := zdcg 3 zdT_dX9_rankOf_0 rfl
theorem dX9_rankOf_4 : decode cX9_rankOf 4 = .ok (.iload_n 3, 1) := zdcg 4 zdT_dX9_rankOf_0 rfl
theorem dX9_rankOf_5 : decode cX9_rankOf 5 = .ok (.iload_n 1, 1) := zdcg 5 zdT_dX9_rankOf_0 rfl
theorem dX9_rankOf_6 : decode cX9_rankOf 6 = .ok (.if_icmp .ge 257, 3) := zdcg 6 zdT_dX9_rankOf_0 rfl
theorem dX9_rankOf_9 : decode cX9_rankOf 9 = .ok (.iload_n 2, 1) := zdcg 7 zdT_dX9_rankOf_0 rfl
theorem dX9_rankOf_10 : decode cX9_rankOf 10 = .ok (.iload_n 1, 1) := zdcg 8 zdT_dX9_rankOf_0 rfl
theorem dX9_rankOf_11 : decode cX9_rankOf 11 = .ok (.if_icmp .ge 252, 3) := zdcg 9 zdT_dX9_rankOf_0 rfl
theorem dX9_rankOf_14 : decode cX9_rankOf 14 = .ok (.iload_n 2, 1) := zdcg 10 zdT_dX9_rankOf_0 rfl
theorem dX9_rankOf_15 : decode cX9_rankOf 15 = .ok (.istore 4, 2) := zdcg 11 zdT_dX9_rankOf_0 rfl
theorem dX9_rankOf_17 : decode cX9_rankOf 17 = .ok (.iload 4, 2) := zdcg 12 zdT_dX9_rankOf_0 rfl
theorem dX9_rankOf_19 : decode cX9_rankOf 19 = .ok (.iload_n 1, 1) := zdcg 13 zdT_dX9_rankOf_0 rfl
theorem dX9_rankOf_20 : decode cX9_rankOf 20 = .ok (.if_icmp .ge 24, 3) := zdcg 14 zdT_dX9_rankOf_0 rfl
theorem dX9_rankOf_23 : decode cX9_rankOf 23 = .ok (.aload_n 0, 1) := zdcg 15 zdT_dX9_rankOf_0 rfl
theorem dX9_rankOf_24 : decode cX9_rankOf 24 = .ok (.getfield 87, 3) := zdcg 16 zdT_dX9_rankOf_0 rfl
theorem dX9_rankOf_27 : decode cX9_rankOf 27 = .ok (.bipush 16, 2) := zdcg 17 zdT_dX9_rankOf_0 rfl
theorem dX9_rankOf_29 : decode cX9_rankOf 29 = .ok (.iload 4, 2) := zdcg 18 zdT_dX9_rankOf_0 rfl
theorem dX9_rankOf_31 : decode cX9_rankOf 31 = .ok (.imul, 1) := zdcg 19 zdT_dX9_rankOf_0 rfl
theorem dX9_rankOf_32 : decode cX9_rankOf 32 = .ok (.iload_n 3, 1) := zdcg 20 zdT_dX9_rankOf_0 rfl
theorem dX9_rankOf_33 : decode cX9_rankOf 33 = .ok (.iadd, 1) := zdcg 21 zdT_dX9_rankOf_0 rfl
theorem dX9_rankOf_34 : decode cX9_rankOf 34 = .ok (.iaload, 1) := zdcg 22 zdT_dX9_rankOf_0 rfl
theorem dX9_rankOf_35 : decode cX9_rankOf 35 = .ok (.ifCond .ne 9, 3) := zdcg 23 zdT_dX9_rankOf_0 rfl
theorem dX9_rankOf_38 : decode cX9_rankOf 38 = .ok (.iinc 4 1, 3) := zdcg 24 zdT_dX9_rankOf_0 rfl
theorem zdT_dX9_rankOf_41 : zdch cX9_rankOf [(41, (.goto (-24), 3)), (44, (.iload 4, 2)), (46, (.iload_n 1, 1)), (47, (.if_icmp .ne 6, 3)), (50, (.goto 207, 3)), (53, (.iconst 0, 1)), (54, (.istore 5, 2)), (56, (.iload 5, 2)), (58, (.iload_n 1, 1)), (59, (.if_icmp .ge 63, 3)), (62, (.aload_n 0, 1)), (63, (.getfield 87, 3)), (66, (.bipush 16, 2)), (68, (.iload 4, 2)), (70, (.imul, 1)), (71, (.iload 5, 2)), (73, (.iadd, 1)), (74, (.iaload, 1)), (75, (.istore 6, 2)), (77, (.aload_n 0, 1)), (78, (.getfield 87, 3)), (81, (.bipush 16, 2)), (83, (.iload 4, 2)), (85, (.imul, 1)), (86, (.iload 5, 2))] = true := by decide +kernel
theorem dX9_rankOf_41 : decode cX9_rankOf 41 = .ok (.goto (-24), 3) := zdcg 0 zdT_dX9_rankOf_41 rfl
theorem dX9_rankOf_44 : decode cX9_rankOf 44 = .ok (.iload 4, 2) := zdcg 1 zdT_dX9_rankOf_41 rfl
theorem dX9_rankOf_46 : decode cX9_rankOf 46 = .ok (.iload_n 1, 1) := zdcg 2 zdT_dX9_rankOf_41 rfl
theorem dX9_rankOf_47 : decode cX9_rankOf 47 = .ok (.if_icmp .ne 6, 3) := zdcg 3 zdT_dX9_rankOf_41 rfl
theorem dX9_rankOf_50 : decode cX9_rankOf 50 = .ok (.goto 207, 3) := zdcg 4 zdT_dX9_rankOf_41 rfl
theorem dX9_rankOf_53 : decode cX9_rankOf 53 = .ok (.iconst 0, 1) := zdcg 5 zdT_dX9_rankOf_41 rfl
theorem dX9_rankOf_54 : decode cX9_rankOf 54 = .ok (.istore 5, 2) := zdcg 6 zdT_dX9_rankOf_41 rfl
theorem dX9_rankOf_56 : decode cX9_rankOf 56 = .ok (.iload 5, 2) := zdcg 7 zdT_dX9_rankOf_41 rfl
theorem dX9_rankOf_58 : decode cX9_rankOf 58 = .ok (.iload_n 1, 1) := zdcg 8 zdT_dX9_rankOf_41 rfl
theorem dX9_rankOf_59 : decode cX9_rankOf 59 = .ok (.if_icmp .ge 63, 3) := zdcg 9 zdT_dX9_rankOf_41 rfl
theorem dX9_rankOf_62 : decode cX9_rankOf 62 = .ok (.aload_n 0, 1) := zdcg 10 zdT_dX9_rankOf_41 rfl
theorem dX9_rankOf_63 : decode cX9_rankOf 63 = .ok (.getfield 87, 3) := zdcg 11 zdT_dX9_rankOf_41 rfl
theorem dX9_rankOf_66 : decode cX9_rankOf 66 = .ok (.bipush 16, 2) := zdcg 12 zdT_dX9_rankOf_41 rfl
theorem dX9_rankOf_68 : decode cX9_rankOf 68 = .ok (.iload 4, 2) := zdcg 13 zdT_dX9_rankOf_41 rfl
theorem dX9_rankOf_70 : decode cX9_rankOf 70 = .ok (.imul, 1) := zdcg 14 zdT_dX9_rankOf_41 rfl
theorem dX9_rankOf_71 : decode cX9_rankOf 71 = .ok (.iload 5, 2) := zdcg 15 zdT_dX9_rankOf_41 rfl
theorem dX9_rankOf_73 : decode cX9_rankOf 73 = .ok (.iadd, 1) := zdcg 16 zdT_dX9_rankOf_41 rfl
theorem dX9_rankOf_74 : decode cX9_rankOf 74 = .ok (.iaload, 1) := zdcg 17 zdT_dX9_rankOf_41 rfl
theorem dX9_rankOf_75 : decode cX9_rankOf 75 = .ok (.istore 6, 2) := zdcg 18 zdT_dX9_rankOf_41 rfl
theorem dX9_rankOf_77 : decode cX9_rankOf 77 = .ok (.aload_n 0, 1) := zdcg 19 zdT_dX9_rankOf_41 rfl
theorem dX9_rankOf_78 : decode cX9_rankOf 78 = .ok (.getfield 87, 3) := zdcg 20 zdT_dX9_rankOf_41 rfl
theorem dX9_rankOf_81 : decode cX9_rankOf 81 = .ok (.bipush 16, 2) := zdcg 21 zdT_dX9_rankOf_41 rfl
theorem dX9_rankOf_83 : decode cX9_rankOf 83 = .ok (.iload 4, 2) := zdcg 22 zdT_dX9_rankOf_41 rfl
theorem dX9_rankOf_85 : decode cX9_rankOf 85 = .ok (.imul, 1) := zdcg 23 zdT_dX9_rankOf_41 rfl
theorem dX9_rankOf_86 : decode cX9_rankOf 86 = .ok (.iload 5, 2) := zdcg 24 zdT_dX9_rankOf_41 rfl
theorem zdT_dX9_rankOf_88 : zdch cX9_rankOf [(88, (.iadd, 1)), (89, (.aload_n 0, 1)), (90, (.getfield 87, 3)), (93, (.bipush 16, 2)), (95, (.iload_n 2, 1)), (96, (.imul, 1)), (97, (.iload 5, 2)), (99, (.iadd, 1)), (100, (.iaload, 1)), (101, (.iastore, 1)), (102, (.aload_n 0, 1)), (103, (.getfield 87, 3)), (106, (.bipush 16, 2)), (108, (.iload_n 2, 1)), (109, (.imul, 1)), (110, (.iload 5, 2)), (112, (.iadd, 1)), (113, (.iload 6, 2)), (115, (.iastore, 1)), (116, (.iinc 5 1, 3)), (119, (.goto (-63), 3)), (122, (.aload_n 0, 1)), (123, (.getfield 87, 3)), (126, (.bipush 16, 2)), (128, (.iload_n 2, 1))] = true := by decide +kernel
theorem dX9_rankOf_88 : decode cX9_rankOf 88 = .ok (.iadd, 1) := zdcg 0 zdT_dX9_rankOf_88 rfl
theorem dX9_rankOf_89 : decode cX9_rankOf 89 = .ok (.aload_n 0, 1) := zdcg 1 zdT_dX9_rankOf_88 rfl
theorem dX9_rankOf_90 : decode cX9_rankOf 90 = .ok (.getfield 87, 3) := zdcg 2 zdT_dX9_rankOf_88 rfl
theorem dX9_rankOf_93 : decode cX9_rankOf 93 = .ok (.bipush 16, 2) := zdcg 3 zdT_dX9_rankOf_88 rfl
theorem dX9_rankOf_95 : decode cX9_rankOf 95 = .ok (.iload_n 2, 1) := zdcg 4 zdT_dX9_rankOf_88 rfl
theorem dX9_rankOf_96 : decode cX9_rankOf 96 = .ok (.imul, 1) := zdcg 5 zdT_dX9_rankOf_88 rfl
theorem dX9_rankOf_97 : decode cX9_rankOf 97 = .ok (.iload 5, 2) := zdcg 6 zdT_dX9_rankOf_88 rfl
theorem dX9_rankOf_99 : decode cX9_rankOf 99 = .ok (.iadd, 1) := zdcg 7 zdT_dX9_rankOf_88 rfl
theorem dX9_rankOf_100 : decode cX9_rankOf 100 = .ok (.iaload, 1) := zdcg 8 zdT_dX9_rankOf_88 rfl
theorem dX9_rankOf_101 : decode cX9_rankOf 101 = .ok (.iastore, 1) := zdcg 9 zdT_dX9_rankOf_88 rfl
theorem dX9_rankOf_102 : decode cX9_rankOf 102 = .ok (.aload_n 0, 1) := zdcg 10 zdT_dX9_rankOf_88 rfl
theorem dX9_rankOf_103 : decode cX9_rankOf 103 = .ok (.getfield 87, 3) := zdcg 11 zdT_dX9_rankOf_88 rfl
theorem dX9_rankOf_106 : decode cX9_rankOf 106 = .ok (.bipush 16, 2) := zdcg 12 zdT_dX9_rankOf_88 rfl
theorem dX9_rankOf_108 : decode cX9_rankOf 108 = .ok (.iload_n 2, 1) := zdcg 13 zdT_dX9_rankOf_88 rfl
theorem dX9_rankOf_109 : decode cX9_rankOf 109 = .ok (.imul, 1) := zdcg 14 zdT_dX9_rankOf_88 rfl
theorem dX9_rankOf_110 : decode cX9_rankOf 110 = .ok (.iload 5, 2) := zdcg 15 zdT_dX9_rankOf_88 rfl
theorem dX9_rankOf_112 : decode cX9_rankOf 112 = .ok (.iadd, 1) := zdcg 16 zdT_dX9_rankOf_88 rfl
theorem dX9_rankOf_113 : decode cX9_rankOf 113 = .ok (.iload 6, 2) := zdcg 17 zdT_dX9_rankOf_88 rfl
theorem dX9_rankOf_115 : decode cX9_rankOf 115 = .ok (.iastore, 1) := zdcg 18 zdT_dX9_rankOf_88 rfl
theorem dX9_rankOf_116 : decode cX9_rankOf 116 = .ok (.iinc 5 1, 3) := zdcg 19 zdT_dX9_rankOf_88 rfl
theorem dX9_rankOf_119 : decode cX9_rankOf 119 = .ok (.goto (-63), 3) := zdcg 20 zdT_dX9_rankOf_88 rfl
theorem dX9_rankOf_122 : decode cX9_rankOf 122 = .ok (.aload_n 0, 1) := zdcg 21 zdT_dX9_rankOf_88 rfl
theorem dX9_rankOf_123 : decode cX9_rankOf 123 = .ok (.getfield 87, 3) := zdcg 22 zdT_dX9_rankOf_88 rfl
theorem dX9_rankOf_126 : decode cX9_rankOf 126 = .ok (.bipush 16, 2) := zdcg 23 zdT_dX9_rankOf_88 rfl
theorem dX9_rankOf_128 : decode cX9_rankOf 128 = .ok (.iload_n 2, 1) := zdcg 24 zdT_dX9_rankOf_88 rfl
theorem zdT_dX9_rankOf_129 : zdch cX9_rankOf [(129, (.imul, 1)), (130, (.iload_n 3, 1)), (131, (.iadd, 1)), (132, (.iaload, 1)), (133, (.aload_n 0, 1)), (134, (.getfield 184, 3)), (137, (.iconst 2, 1)), (138, (.isub, 1)), (139, (.aload_n 0, 1)), (140, (.getfield 184, 3)), (143, (.invokestatic 238, 3)), (146, (.istore 5, 2)), (148, (.iload_n 2, 1)), (149, (.iconst 1, 1)), (150, (.iadd, 1)), (151, (.istore 6, 2)), (153, (.iload 6, 2)), (155, (.iload_n 1, 1)), (156, (.if_icmp .ge 98, 3)), (159, (.aload_n 0, 1)), (160, (.getfield 87, 3)), (163, (.bipush 16, 2)), (165, (.iload 6, 2)), (167, (.imul, 1)), (168, (.iload_n 3, 1))] = true := by decide +kernel
theorem dX9_rankOf_129 : decode cX9_rankOf 129 = .ok (.imul, 1) := zdcg 0 zdT_dX9_rankOf_129 rfl
theorem dX9_rankOf_130 : decode cX9_rankOf 130 = .ok (.iload_n 3, 1) := zdcg 1 zdT_dX9_rankOf_129 rfl
theorem dX9_rankOf_131 : decode cX9_rankOf 131 = .ok (.iadd, 1) := zdcg 2 zdT_dX9_rankOf_129 rfl
theorem dX9_rankOf_132 : decode cX9_rankOf 132 = .ok (.iaload, 1) := zdcg 3 zdT_dX9_rankOf_129 rfl
theorem dX9_rankOf_133 : decode cX9_rankOf 133 = .ok (.aload_n 0, 1) := zdcg 4 zdT_dX9_rankOf_129 rfl
theorem dX9_rankOf_134 : decode cX9_rankOf 134 = .ok (.getfield 184, 3) := zdcg 5 zdT_dX9_rankOf_129 rfl
theorem dX9_rankOf_137 : decode cX9_rankOf 137 = .ok (.iconst 2, 1) := zdcg 6 zdT_dX9_rankOf_129 rfl
theorem dX9_rankOf_138 : decode cX9_rankOf 138 = .ok (.isub, 1) := zdcg 7 zdT_dX9_rankOf_129 rfl
theorem dX9_rankOf_139 : decode cX9_rankOf 139 = .ok (.aload_n 0, 1) := zdcg 8 zdT_dX9_rankOf_129 rfl
theorem dX9_rankOf_140 : decode cX9_rankOf 140 = .ok (.getfield 184, 3) := zdcg 9 zdT_dX9_rankOf_129 rfl
theorem dX9_rankOf_143 : decode cX9_rankOf 143 = .ok (.invokestatic 238, 3) := zdcg 10 zdT_dX9_rankOf_129 rfl
theorem dX9_rankOf_146 : decode cX9_rankOf 146 = .ok (.istore 5, 2) := zdcg 11 zdT_dX9_rankOf_129 rfl
theorem dX9_rankOf_148 : decode cX9_rankOf 148 = .ok (.iload_n 2, 1) := zdcg 12 zdT_dX9_rankOf_129 rfl
theorem dX9_rankOf_149 : decode cX9_rankOf 149 = .ok (.iconst 1, 1) := zdcg 13 zdT_dX9_rankOf_129 rfl
theorem dX9_rankOf_150 : decode cX9_rankOf 150 = .ok (.iadd, 1) := zdcg 14 zdT_dX9_rankOf_129 rfl
theorem dX9_rankOf_151 : decode cX9_rankOf 151 = .ok (.istore 6, 2) := zdcg 15 zdT_dX9_rankOf_129 rfl
theorem dX9_rankOf_153 : decode cX9_rankOf 153 = .ok (.iload 6, 2) := zdcg 16 zdT_dX9_rankOf_129 rfl
theorem dX9_rankOf_155 : decode cX9_rankOf 155 = .ok (.iload_n 1, 1) := zdcg 17 zdT_dX9_rankOf_129 rfl
theorem dX9_rankOf_156 : decode cX9_rankOf 156 = .ok (.if_icmp .ge 98, 3) := zdcg 18 zdT_dX9_rankOf_129 rfl
theorem dX9_rankOf_159 : decode cX9_rankOf 159 = .ok (.aload_n 0, 1) := zdcg 19 zdT_dX9_rankOf_129 rfl
theorem dX9_rankOf_160 : decode cX9_rankOf 160 = .ok (.getfield 87, 3) := zdcg 20 zdT_dX9_rankOf_129 rfl
theorem dX9_rankOf_163 : decode cX9_rankOf 163 = .ok (.bipush 16, 2) := zdcg 21 zdT_dX9_rankOf_129 rfl
theorem dX9_rankOf_165 : decode cX9_rankOf 165 = .ok (.iload 6, 2) := zdcg 22 zdT_dX9_rankOf_129 rfl
theorem dX9_rankOf_167 : decode cX9_rankOf 167 = .ok (.imul, 1) := zdcg 23 zdT_dX9_rankOf_129 rfl
theorem dX9_rankOf_168 : decode cX9_rankOf 168 = .ok (.iload_n 3, 1) := zdcg 24 zdT_dX9_rankOf_129 rfl
theorem zdT_dX9_rankOf_169 : zdch cX9_rankOf [(169, (.iadd, 1)), (170, (.iaload, 1)), (171, (.iload 5, 2)), (173, (.imul, 1)), (174, (.aload_n 0, 1)), (175, (.getfield 184, 3)), (178, (.irem, 1)), (179, (.istore 7, 2)), (181, (.iload_n 3, 1)), (182, (.istore 8, 2)), (184, (.iload 8, 2)), (186, (.iload_n 1, 1)), (187, (.if_icmp .ge 61, 3)), (190, (.aload_n 0, 1)), (191, (.getfield 87, 3)), (194, (.bipush 16, 2)), (196, (.iload 6, 2)), (198, (.imul, 1)), (199, (.iload 8, 2)), (201, (.iadd, 1)), (202, (.aload_n 0, 1)), (203, (.getfield 87, 3)), (206, (.bipush 16, 2)), (208, (.iload 6, 2)), (210, (.imul, 1))] = true := by decide +kernel
theorem dX9_rankOf_169 : decode cX9_rankOf 169 = .ok (.iadd, 1) := zdcg 0 zdT_dX9_rankOf_169 rfl
theorem dX9_rankOf_170 : decode cX9_rankOf 170 = .ok (.iaload, 1) := zdcg 1 zdT_dX9_rankOf_169 rfl
theorem dX9_rankOf_171 : decode cX9_rankOf 171 = .ok (.iload 5, 2) := zdcg 2 zdT_dX9_rankOf_169 rfl
theorem dX9_rankOf_173 : decode cX9_rankOf 173 = .ok (.imul, 1) := zdcg 3 zdT_dX9_rankOf_169 rfl
theorem dX9_rankOf_174 : decode cX9_rankOf 174 = .ok (.aload_n 0, 1) := zdcg 4 zdT_dX9_rankOf_169 rfl
theorem dX9_rankOf_175 : decode cX9_rankOf 175 = .ok (.getfield 184, 3) := zdcg 5 zdT_dX9_rankOf_169 rfl
theorem dX9_rankOf_178 : decode cX9_rankOf 178 = .ok (.irem, 1) := zdcg 6 zdT_dX9_rankOf_169 rfl
theorem dX9_rankOf_179 : decode cX9_rankOf 179 = .ok (.istore 7, 2) := zdcg 7 zdT_dX9_rankOf_169 rfl
theorem dX9_rankOf_181 : decode cX9_rankOf 181 = .ok (.iload_n 3, 1) := zdcg 8 zdT_dX9_rankOf_169 rfl
theorem dX9_rankOf_182 : decode cX9_rankOf 182 = .ok (.istore 8, 2) := zdcg 9 zdT_dX9_rankOf_169 rfl
theorem dX9_rankOf_184 : decode cX9_rankOf 184 = .ok (.iload 8, 2) := zdcg 10 zdT_dX9_rankOf_169 rfl
theorem dX9_rankOf_186 : decode cX9_rankOf 186 = .ok (.iload_n 1, 1) := zdcg 11 zdT_dX9_rankOf_169 rfl
theorem dX9_rankOf_187 : decode cX9_rankOf 187 = .ok (.if_icmp .ge 61, 3) := zdcg 12 zdT_dX9_rankOf_169 rfl
theorem dX9_rankOf_190 : decode cX9_rankOf 190 = .ok (.aload_n 0, 1) := zdcg 13 zdT_dX9_rankOf_169 rfl
theorem dX9_rankOf_191 : decode cX9_rankOf 191 = .ok (.getfield 87, 3) := zdcg 14 zdT_dX9_rankOf_169 rfl
theorem dX9_rankOf_194 : decode cX9_rankOf 194 = .ok (.bipush 16, 2) := zdcg 15 zdT_dX9_rankOf_169 rfl
theorem dX9_rankOf_196 : decode cX9_rankOf 196 = .ok (.iload 6, 2) := zdcg 16 zdT_dX9_rankOf_169 rfl
theorem dX9_rankOf_198 : decode cX9_rankOf 198 = .ok (.imul, 1) := zdcg 17 zdT_dX9_rankOf_169 rfl
theorem dX9_rankOf_199 : decode cX9_rankOf 199 = .ok (.iload 8, 2) := zdcg 18 zdT_dX9_rankOf_169 rfl
theorem dX9_rankOf_201 : decode cX9_rankOf 201 = .ok (.iadd, 1) := zdcg 19 zdT_dX9_rankOf_169 rfl
theorem dX9_rankOf_202 : decode cX9_rankOf 202 = .ok (.aload_n 0, 1) := zdcg 20 zdT_dX9_rankOf_169 rfl
theorem dX9_rankOf_203 : decode cX9_rankOf 203 = .ok (.getfield 87, 3) := zdcg 21 zdT_dX9_rankOf_169 rfl
theorem dX9_rankOf_206 : decode cX9_rankOf 206 = .ok (.bipush 16, 2) := zdcg 22 zdT_dX9_rankOf_169 rfl
theorem dX9_rankOf_208 : decode cX9_rankOf 208 = .ok (.iload 6, 2) := zdcg 23 zdT_dX9_rankOf_169 rfl
theorem dX9_rankOf_210 : decode cX9_rankOf 210 = .ok (.imul, 1) := zdcg 24 zdT_dX9_rankOf_169 rfl
theorem zdT_dX9_rankOf_211 : zdch cX9_rankOf [(211, (.iload 8, 2)), (213, (.iadd, 1)), (214, (.iaload, 1)), (215, (.aload_n 0, 1)), (216, (.getfield 184, 3)), (219, (.iload 7, 2)), (221, (.isub, 1)), (222, (.aload_n 0, 1)), (223, (.getfield 87, 3)), (226, (.bipush 16, 2)), (228, (.iload_n 2, 1)), (229, (.imul, 1)), (230, (.iload 8, 2)), (232, (.iadd, 1)), (233, (.iaload, 1)), (234, (.imul, 1)), (235, (.iadd, 1)), (236, (.aload_n 0, 1)), (237, (.getfield 184, 3)), (240, (.irem, 1)), (241, (.iastore, 1)), (242, (.iinc 8 1, 3)), (245, (.goto (-61), 3)), (248, (.iinc 6 1, 3)), (251, (.goto (-98), 3))] = true := by decide +kernel
theorem dX9_rankOf_211 : decode cX9_rankOf 211 = .ok (.iload 8, 2) := zdcg 0 zdT_dX9_rankOf_211 rfl
theorem dX9_rankOf_213 : decode cX9_rankOf 213 = .ok (.iadd, 1) := zdcg 1 zdT_dX9_rankOf_211 rfl
theorem dX9_rankOf_214 : decode cX9_rankOf 214 = .ok (.iaload, 1) := zdcg 2 zdT_dX9_rankOf_211 rfl
theorem dX9_rankOf_215 : decode cX9_rankOf 215 = .ok (.aload_n 0, 1) := zdcg 3 zdT_dX9_rankOf_211 rfl
theorem dX9_rankOf_216 : decode cX9_rankOf 216 = .ok (.getfield 184, 3) := zdcg 4 zdT_dX9_rankOf_211 rfl
theorem dX9_rankOf_219 : decode cX9_rankOf 219 = .ok (.iload 7, 2) := zdcg 5 zdT_dX9_rankOf_211 rfl
theorem dX9_rankOf_221 : decode cX9_rankOf 221 = .ok (.isub, 1) := zdcg 6 zdT_dX9_rankOf_211 rfl
theorem dX9_rankOf_222 : decode cX9_rankOf 222 = .ok (.aload_n 0, 1) := zdcg 7 zdT_dX9_rankOf_211 rfl
theorem dX9_rankOf_223 : decode cX9_rankOf 223 = .ok (.getfield 87, 3) := zdcg 8 zdT_dX9_rankOf_211 rfl
theorem dX9_rankOf_226 : decode cX9_rankOf 226 = .ok (.bipush 16, 2) := zdcg 9 zdT_dX9_rankOf_211 rfl
theorem dX9_rankOf_228 : decode cX9_rankOf 228 = .ok (.iload_n 2, 1) := zdcg 10 zdT_dX9_rankOf_211 rfl
theorem dX9_rankOf_229 : decode cX9_rankOf 229 = .ok (.imul, 1) := zdcg 11 zdT_dX9_rankOf_211 rfl
theorem dX9_rankOf_230 : decode cX9_rankOf 230 = .ok (.iload 8, 2) := zdcg 12 zdT_dX9_rankOf_211 rfl
theorem dX9_rankOf_232 : decode cX9_rankOf 232 = .ok (.iadd, 1) := zdcg 13 zdT_dX9_rankOf_211 rfl
theorem dX9_rankOf_233 : decode cX9_rankOf 233 = .ok (.iaload, 1) := zdcg 14 zdT_dX9_rankOf_211 rfl
theorem dX9_rankOf_234 : decode cX9_rankOf 234 = .ok (.imul, 1) := zdcg 15 zdT_dX9_rankOf_211 rfl
theorem dX9_rankOf_235 : decode cX9_rankOf 235 = .ok (.iadd, 1) := zdcg 16 zdT_dX9_rankOf_211 rfl
theorem dX9_rankOf_236 : decode cX9_rankOf 236 = .ok (.aload_n 0, 1) := zdcg 17 zdT_dX9_rankOf_211 rfl
theorem dX9_rankOf_237 : decode cX9_rankOf 237 = .ok (.getfield 184, 3) := zdcg 18 zdT_dX9_rankOf_211 rfl
theorem dX9_rankOf_240 : decode cX9_rankOf 240 = .ok (.irem, 1) := zdcg 19 zdT_dX9_rankOf_211 rfl
theorem dX9_rankOf_241 : decode cX9_rankOf 241 = .ok (.iastore, 1) := zdcg 20 zdT_dX9_rankOf_211 rfl
theorem dX9_rankOf_242 : decode cX9_rankOf 242 = .ok (.iinc 8 1, 3) := zdcg 21 zdT_dX9_rankOf_211 rfl
theorem dX9_rankOf_245 : decode cX9_rankOf 245 = .ok (.goto (-61), 3) := zdcg 22 zdT_dX9_rankOf_211 rfl
theorem dX9_rankOf_248 : decode cX9_rankOf 248 = .ok (.iinc 6 1, 3) := zdcg 23 zdT_dX9_rankOf_211 rfl
theorem dX9_rankOf_251 : decode cX9_rankOf 251 = .ok (.goto (-98), 3) := zdcg 24 zdT_dX9_rankOf_211 rfl
theorem zdT_dX9_rankOf_254 : zdch cX9_rankOf [(254, (.iinc 2 1, 3)), (257, (.iinc 3 1, 3)), (260, (.goto (-256), 3)), (263, (.iload_n 2, 1)), (264, (.ireturn, 1))] = true := by decide +kernel
theorem dX9_rankOf_254 : decode cX9_rankOf 254 = .ok (.iinc 2 1, 3) := zdcg 0 zdT_dX9_rankOf_254 rfl
theorem dX9_rankOf_257 : decode cX9_rankOf 257 = .ok (.iinc 3 1, 3) := zdcg 1 zdT_dX9_rankOf_254 rfl
theorem dX9_rankOf_260 : decode cX9_rankOf 260 = .ok (.goto (-256), 3) := zdcg 2 zdT_dX9_rankOf_254 rfl
theorem dX9_rankOf_263 : decode cX9_rankOf 263 = .ok (.iload_n 2, 1) := zdcg 3 zdT_dX9_rankOf_254 rfl
theorem dX9_rankOf_264 : decode cX9_rankOf 264 = .ok (.ireturn, 1) := zdcg 4 zdT_dX9_rankOf_254 rfl
theorem zdT_dX9_forms_0 : zdch cX9_forms [(0, (.aload_n 0, 1)), (1, (.iload_n 1, 1)), (2, (.invokevirtual 241, 3)), (5, (.iconst 0, 1)), (6, (.istore_n 2, 1)), (7, (.iload_n 2, 1)), (8, (.aload_n 0, 1)), (9, (.getfield 56, 3)), (12, (.iload_n 1, 1)), (13, (.iaload, 1)), (14, (.if_icmp .ge 90, 3)), (17, (.iconst 0, 1)), (18, (.istore_n 3, 1)), (19, (.iload_n 3, 1)), (20, (.aload_n 0, 1)), (21, (.getfield 56, 3)), (24, (.iload_n 1, 1)), (25, (.iaload, 1)), (26, (.if_icmp .ge 72, 3)), (29, (.aload_n 0, 1)), (30, (.aload_n 0, 1)), (31, (.getfield 72, 3)), (34, (.iload_n 2, 1)), (35, (.aload_n 0, 1)), (36, (.getfield 72, 3))] = true := by decide +kernel
theorem dX9_forms_0 : decode cX9_forms 0 = .ok (.aload_n 0, 1) := zdcg 0 zdT_dX9_forms_0 rfl
theorem dX9_forms_1 : decode cX9_forms 1 = .ok (.iload_n 1, 1) := zdcg 1 zdT_dX9_forms_0 rfl
theorem dX9_forms_2 : decode cX9_forms 2 = .ok (.invokevirtual 241, 3) := zdcg 2 zdT_dX9_forms_0 rfl
theorem dX9_forms_5 : decode cX9_forms 5 = .ok (.iconst 0, 1) := zdcg 3 zdT_dX9_forms_0 rfl
theorem dX9_forms_6 : decode cX9_forms 6 = .ok (.istore_n 2, 1) := zdcg 4 zdT_dX9_forms_0 rfl
theorem dX9_forms_7 : decode cX9_forms 7 = .ok (.iload_n 2, 1) := zdcg 5 zdT_dX9_forms_0 rfl
theorem dX9_forms_8 : decode cX9_forms 8 = .ok (.aload_n 0, 1) := zdcg 6 zdT_dX9_forms_0 rfl
theorem dX9_forms_9 : decode cX9_forms 9 = .ok (.getfield 56, 3) := zdcg 7 zdT_dX9_forms_0 rfl
theorem dX9_forms_12 : decode cX9_forms 12 = .ok (.iload_n 1, 1) := zdcg 8 zdT_dX9_forms_0 rfl
theorem dX9_forms_13 : decode cX9_forms 13 = .ok (.iaload, 1) := zdcg 9 zdT_dX9_forms_0 rfl
theorem dX9_forms_14 : decode cX9_forms 14 = .ok (.if_icmp .ge 90, 3) := zdcg 10 zdT_dX9_forms_0 rfl
theorem dX9_forms_17 : decode cX9_forms 17 = .ok (.iconst 0, 1) := zdcg 11 zdT_dX9_forms_0 rfl
theorem dX9_forms_18 : decode cX9_forms 18 = .ok (.istore_n 3, 1) := zdcg 12 zdT_dX9_forms_0 rfl
theorem dX9_forms_19 : decode cX9_forms 19 = .ok (.iload_n 3, 1) := zdcg 13 zdT_dX9_forms_0 rfl
theorem dX9_forms_20 : decode cX9_forms 20 = .ok (.aload_n 0, 1) := zdcg 14 zdT_dX9_forms_0 rfl
theorem dX9_forms_21 : decode cX9_forms 21 = .ok (.getfield 56, 3) := zdcg 15 zdT_dX9_forms_0 rfl
theorem dX9_forms_24 : decode cX9_forms 24 = .ok (.iload_n 1, 1) := zdcg 16 zdT_dX9_forms_0 rfl
theorem dX9_forms_25 : decode cX9_forms 25 = .ok (.iaload, 1) := zdcg 17 zdT_dX9_forms_0 rfl
theorem dX9_forms_26 : decode cX9_forms 26 = .ok (.if_icmp .ge 72, 3) := zdcg 18 zdT_dX9_forms_0 rfl
theorem dX9_forms_29 : decode cX9_forms 29 = .ok (.aload_n 0, 1) := zdcg 19 zdT_dX9_forms_0 rfl
theorem dX9_forms_30 : decode cX9_forms 30 = .ok (.aload_n 0, 1) := zdcg 20 zdT_dX9_forms_0 rfl
theorem dX9_forms_31 : decode cX9_forms 31 = .ok (.getfield 72, 3) := zdcg 21 zdT_dX9_forms_0 rfl
theorem dX9_forms_34 : decode cX9_forms 34 = .ok (.iload_n 2, 1) := zdcg 22 zdT_dX9_forms_0 rfl
theorem dX9_forms_35 : decode cX9_forms 35 = .ok (.aload_n 0, 1) := zdcg 23 zdT_dX9_forms_0 rfl
theorem dX9_forms_36 : decode cX9_forms 36 = .ok (.getfield 72, 3) := zdcg 24 zdT_dX9_forms_0 rfl
theorem zdT_dX9_forms_39 : zdch cX9_forms [(39, (.iload_n 3, 1)), (40, (.invokevirtual 245, 3)), (43, (.istore 4, 2)), (45, (.aload_n 0, 1)), (46, (.getfield 90, 3)), (49, (.sipush 256, 3)), (52, (.iload_n 1, 1)), (53, (.imul, 1)), (54, (.bipush 16, 2)), (56, (.iload_n 2, 1)), (57, (.imul, 1)), (58, (.iadd, 1)), (59, (.iload_n 3, 1)), (60, (.iadd, 1)), (61, (.iload 4, 2)), (63, (.iastore, 1)), (64, (.aload_n 0, 1)), (65, (.getfield 87, 3)), (68, (.bipush 16, 2)), (70, (.iload_n 2, 1)), (71, (.imul, 1)), (72, (.iload_n 3, 1)), (73, (.iadd, 1)), (74, (.iload 4, 2)), (76, (.aload_n 0, 1))] = true := by decide +kernel
theorem dX9_forms_39 : decode cX9_forms 39 = .ok (.iload_n 3, 1) := zdcg 0 zdT_dX9_forms_39 rfl
theorem dX9_forms_40 : decode cX9_forms 40 = .ok (.invokevirtual 245, 3) := zdcg 1 zdT_dX9_forms_39 rfl
theorem dX9_forms_43 : decode cX9_forms 43 = .ok (.istore 4, 2) := zdcg 2 zdT_dX9_forms_39 rfl
theorem dX9_forms_45 : decode cX9_forms 45 = .ok (.aload_n 0, 1) := zdcg 3 zdT_dX9_forms_39 rfl
theorem dX9_forms_46 : decode cX9_forms 46 = .ok (.getfield 90, 3) := zdcg 4 zdT_dX9_forms_39 rfl
theorem dX9_forms_49 : decode cX9_forms 49 = .ok (.sipush 256, 3) := zdcg 5 zdT_dX9_forms_39 rfl
theorem dX9_forms_52 : decode cX9_forms 52 = .ok (.iload_n 1, 1) := zdcg 6 zdT_dX9_forms_39 rfl
theorem dX9_forms_53 : decode cX9_forms 53 = .ok (.imul, 1) := zdcg 7 zdT_dX9_forms_39 rfl
theorem dX9_forms_54 : decode cX9_forms 54 = .ok (.bipush 16, 2) := zdcg 8 zdT_dX9_forms_39 rfl
theorem dX9_forms_56 : decode cX9_forms 56 = .ok (.iload_n 2, 1) := zdcg 9 zdT_dX9_forms_39 rfl
theorem dX9_forms_57 : decode cX9_forms 57 = .ok (.imul, 1) := zdcg 10 zdT_dX9_forms_39 rfl
theorem dX9_forms_58 : decode cX9_forms 58 = .ok (.iadd, 1) := zdcg 11 zdT_dX9_forms_39 rfl
theorem dX9_forms_59 : decode cX9_forms 59 = .ok (.iload_n 3, 1) := zdcg 12 zdT_dX9_forms_39 rfl
theorem dX9_forms_60 : decode cX9_forms 60 = .ok (.iadd, 1) := zdcg 13 zdT_dX9_forms_39 rfl
theorem dX9_forms_61 : decode cX9_forms 61 = .ok (.iload 4, 2) := zdcg 14 zdT_dX9_forms_39 rfl
theorem dX9_forms_63 : decode cX9_forms 63 = .ok (.iastore, 1) := zdcg 15 zdT_dX9_forms_39 rfl
theorem dX9_forms_64 : decode cX9_forms 64 = .ok (.aload_n 0, 1) := zdcg 16 zdT_dX9_forms_39 rfl
theorem dX9_forms_65 : decode cX9_forms 65 = .ok (.getfield 87, 3) := zdcg 17 zdT_dX9_forms_39 rfl
theorem dX9_forms_68 : decode cX9_forms 68 = .ok (.bipush 16, 2) := zdcg 18 zdT_dX9_forms_39 rfl
theorem dX9_forms_70 : decode cX9_forms 70 = .ok (.iload_n 2, 1) := zdcg 19 zdT_dX9_forms_39 rfl
theorem dX9_forms_71 : decode cX9_forms 71 = .ok (.imul, 1) := zdcg 20 zdT_dX9_forms_39 rfl
theorem dX9_forms_72 : decode cX9_forms 72 = .ok (.iload_n 3, 1) := zdcg 21 zdT_dX9_forms_39 rfl
theorem dX9_forms_73 : decode cX9_forms 73 = .ok (.iadd, 1) := zdcg 22 zdT_dX9_forms_39 rfl
theorem dX9_forms_74 : decode cX9_forms 74 = .ok (.iload 4, 2) := zdcg 23 zdT_dX9_forms_39 rfl
theorem dX9_forms_76 : decode cX9_forms 76 = .ok (.aload_n 0, 1) := zdcg 24 zdT_dX9_forms_39 rfl
theorem zdT_dX9_forms_77 : zdch cX9_forms [(77, (.getfield 184, 3)), (80, (.irem, 1)), (81, (.aload_n 0, 1)), (82, (.getfield 184, 3)), (85, (.iadd, 1)), (86, (.aload_n 0, 1)), (87, (.getfield 184, 3)), (90, (.irem, 1)), (91, (.iastore, 1)), (92, (.iinc 3 1, 3)), (95, (.goto (-76), 3)), (98, (.iinc 2 1, 3)), (101, (.goto (-94), 3)), (104, (.aload_n 0, 1)), (105, (.getfield 93, 3)), (108, (.iload_n 1, 1)), (109, (.aload_n 0, 1)), (110, (.aload_n 0, 1)), (111, (.getfield 56, 3)), (114, (.iload_n 1, 1)), (115, (.iaload, 1)), (116, (.invokevirtual 249, 3)), (119, (.iastore, 1)), (120, (.return_, 1))] = true := by decide +kernel
theorem dX9_forms_77 : decode cX9_forms 77 = .ok (.getfield 184, 3) := zdcg 0 zdT_dX9_forms_77 rfl
theorem dX9_forms_80 : decode cX9_forms 80 = .ok (.irem, 1) := zdcg 1 zdT_dX9_forms_77 rfl
theorem dX9_forms_81 : decode cX9_forms 81 = .ok (.aload_n 0, 1) := zdcg 2 zdT_dX9_forms_77 rfl
theorem dX9_forms_82 : decode cX9_forms 82 = .ok (.getfield 184, 3) := zdcg 3 zdT_dX9_forms_77 rfl
theorem dX9_forms_85 : decode cX9_forms 85 = .ok (.iadd, 1) := zdcg 4 zdT_dX9_forms_77 rfl
theorem dX9_forms_86 : decode cX9_forms 86 = .ok (.aload_n 0, 1) := zdcg 5 zdT_dX9_forms_77 rfl
theorem dX9_forms_87 : decode cX9_forms 87 = .ok (.getfield 184, 3) := zdcg 6 zdT_dX9_forms_77 rfl
theorem dX9_forms_90 : decode cX9_forms 90 = .ok (.irem, 1) := zdcg 7 zdT_dX9_forms_77 rfl
theorem dX9_forms_91 : decode cX9_forms 91 = .ok (.iastore, 1) := zdcg 8 zdT_dX9_forms_77 rfl
theorem dX9_forms_92 : decode cX9_forms 92 = .ok (.iinc 3 1, 3) := zdcg 9 zdT_dX9_forms_77 rfl
theorem dX9_forms_95 : decode cX9_forms 95 = .ok (.goto (-76), 3) := zdcg 10 zdT_dX9_forms_77 rfl
theorem dX9_forms_98 : decode cX9_forms 98 = .ok (.iinc 2 1, 3) := zdcg 11 zdT_dX9_forms_77 rfl
theorem dX9_forms_101 : decode cX9_forms 101 = .ok (.goto (-94), 3) := zdcg 12 zdT_dX9_forms_77 rfl
theorem dX9_forms_104 : decode cX9_forms 104 = .ok (.aload_n 0, 1) := zdcg 13 zdT_dX9_forms_77 rfl
theorem dX9_forms_105 : decode cX9_forms 105 = .ok (.getfield 93, 3) := zdcg 14 zdT_dX9_forms_77 rfl
theorem dX9_forms_108 : decode cX9_forms 108 = .ok (.iload_n 1, 1) := zdcg 15 zdT_dX9_forms_77 rfl
theorem dX9_forms_109 : decode cX9_forms 109 = .ok (.aload_n 0, 1) := zdcg 16 zdT_dX9_forms_77 rfl
theorem dX9_forms_110 : decode cX9_forms 110 = .ok (.aload_n 0, 1) := zdcg 17 zdT_dX9_forms_77 rfl
theorem dX9_forms_111 : decode cX9_forms 111 = .ok (.getfield 56, 3) := zdcg 18 zdT_dX9_forms_77 rfl
theorem dX9_forms_114 : decode cX9_forms 114 = .ok (.iload_n 1, 1) := zdcg 19 zdT_dX9_forms_77 rfl
theorem dX9_forms_115 : decode cX9_forms 115 = .ok (.iaload, 1) := zdcg 20 zdT_dX9_forms_77 rfl
theorem dX9_forms_116 : decode cX9_forms 116 = .ok (.invokevirtual 249, 3) := zdcg 21 zdT_dX9_forms_77 rfl
theorem dX9_forms_119 : decode cX9_forms 119 = .ok (.iastore, 1) := zdcg 22 zdT_dX9_forms_77 rfl
theorem dX9_forms_120 : decode cX9_forms 120 = .ok (.return_, 1) := zdcg 23 zdT_dX9_forms_77 rfl
theorem zdT_dX9_moves_0 : zdch cX9_moves [(0, (.iconst 1, 1)), (1, (.istore_n 3, 1)), (2, (.iconst 0, 1)), (3, (.istore 4, 2)), (5, (.iload 4, 2)), (7, (.aload_n 0, 1)), (8, (.getfield 13, 3)), (11, (.iload_n 1, 1)), (12, (.iaload, 1)), (13, (.if_icmp .ge 57, 3)), (16, (.aload_n 0, 1)), (17, (.iload_n 1, 1)), (18, (.iload 4, 2)), (20, (.invokevirtual 175, 3)), (23, (.istore 5, 2)), (25, (.iconst 0, 1)), (26, (.istore 6, 2)), (28, (.iload 6, 2)), (30, (.iload 5, 2)), (32, (.if_icmp .ge 27, 3)), (35, (.aload_n 0, 1)), (36, (.getfield 84, 3)), (39, (.iload_n 3, 1)), (40, (.iload 6, 2)), (42, (.iadd, 1))] = true := by decide +kernel
theorem dX9_moves_0 : decode cX9_moves 0 = .ok (.iconst 1, 1) := zdcg 0 zdT_dX9_moves_0 rfl
theorem dX9_moves_1 : decode cX9_moves 1 = .ok (.istore_n 3, 1) := zdcg 1 zdT_dX9_moves_0 rfl
theorem dX9_moves_2 : decode cX9_moves 2 = .ok (.iconst 0, 1) := zdcg 2 zdT_dX9_moves_0 rfl
theorem dX9_moves_3 : decode cX9_moves 3 = .ok (.istore 4, 2) := zdcg 3 zdT_dX9_moves_0 rfl
theorem dX9_moves_5 : decode cX9_moves 5 = .ok (.iload 4, 2) := zdcg 4 zdT_dX9_moves_0 rfl
theorem dX9_moves_7 : decode cX9_moves 7 = .ok (.aload_n 0, 1) := zdcg 5 zdT_dX9_moves_0 rfl
theorem dX9_moves_8 : decode cX9_moves 8 = .ok (.getfield 13, 3) := zdcg 6 zdT_dX9_moves_0 rfl
theorem dX9_moves_11 : decode cX9_moves 11 = .ok (.iload_n 1, 1) := zdcg 7 zdT_dX9_moves_0 rfl
theorem dX9_moves_12 : decode cX9_moves 12 = .ok (.iaload, 1) := zdcg 8 zdT_dX9_moves_0 rfl
theorem dX9_moves_13 : decode cX9_moves 13 = .ok (.if_icmp .ge 57, 3) := zdcg 9 zdT_dX9_moves_0 rfl
theorem dX9_moves_16 : decode cX9_moves 16 = .ok (.aload_n 0, 1) := zdcg 10 zdT_dX9_moves_0 rfl
theorem dX9_moves_17 : decode cX9_moves 17 = .ok (.iload_n 1, 1) := zdcg 11 zdT_dX9_moves_0 rfl
theorem dX9_moves_18 : decode cX9_moves 18 = .ok (.iload 4, 2) := zdcg 12 zdT_dX9_moves_0 rfl
theorem dX9_moves_20 : decode cX9_moves 20 = .ok (.invokevirtual 175, 3) := zdcg 13 zdT_dX9_moves_0 rfl
theorem dX9_moves_23 : decode cX9_moves 23 = .ok (.istore 5, 2) := zdcg 14 zdT_dX9_moves_0 rfl
theorem dX9_moves_25 : decode cX9_moves 25 = .ok (.iconst 0, 1) := zdcg 15 zdT_dX9_moves_0 rfl
theorem dX9_moves_26 : decode cX9_moves 26 = .ok (.istore 6, 2) := zdcg 16 zdT_dX9_moves_0 rfl
theorem dX9_moves_28 : decode cX9_moves 28 = .ok (.iload 6, 2) := zdcg 17 zdT_dX9_moves_0 rfl
theorem dX9_moves_30 : decode cX9_moves 30 = .ok (.iload 5, 2) := zdcg 18 zdT_dX9_moves_0 rfl
theorem dX9_moves_32 : decode cX9_moves 32 = .ok (.if_icmp .ge 27, 3) := zdcg 19 zdT_dX9_moves_0 rfl
theorem dX9_moves_35 : decode cX9_moves 35 = .ok (.aload_n 0, 1) := zdcg 20 zdT_dX9_moves_0 rfl
theorem dX9_moves_36 : decode cX9_moves 36 = .ok (.getfield 84, 3) := zdcg 21 zdT_dX9_moves_0 rfl
theorem dX9_moves_39 : decode cX9_moves 39 = .ok (.iload_n 3, 1) := zdcg 22 zdT_dX9_moves_0 rfl
theorem dX9_moves_40 : decode cX9_moves 40 = .ok (.iload 6, 2) := zdcg 23 zdT_dX9_moves_0 rfl
theorem dX9_moves_42 : decode cX9_moves 42 = .ok (.iadd, 1) := zdcg 24 zdT_dX9_moves_0 rfl
theorem zdT_dX9_moves_43 : zdch cX9_moves [(43, (.iload_n 3, 1)), (44, (.iload 6, 2)), (46, (.iload_n 2, 1)), (47, (.iadd, 1)), (48, (.iload 5, 2)), (50, (.irem, 1)), (51, (.iadd, 1)), (52, (.iastore, 1)), (53, (.iinc 6 1, 3)), (56, (.goto (-28), 3)), (59, (.iload_n 3, 1)), (60, (.iload 5, 2)), (62, (.iadd, 1)), (63, (.istore_n 3, 1)), (64, (.iinc 4 1, 3)), (67, (.goto (-62), 3)), (70, (.return_, 1))] = true := by decide +kernel
theorem dX9_moves_43 : decode cX9_moves 43 = .ok (.iload_n 3, 1) := zdcg 0 zdT_dX9_moves_43 rfl
theorem dX9_moves_44 : decode cX9_moves 44 = .ok (.iload 6, 2) := zdcg 1 zdT_dX9_moves_43 rfl
theorem dX9_moves_46 : decode cX9_moves 46 = .ok (.iload_n 2, 1) := zdcg 2 zdT_dX9_moves_43 rfl
theorem dX9_moves_47 : decode cX9_moves 47 = .ok (.iadd, 1) := zdcg 3 zdT_dX9_moves_43 rfl
theorem dX9_moves_48 : decode cX9_moves 48 = .ok (.iload 5, 2) := zdcg 4 zdT_dX9_moves_43 rfl
theorem dX9_moves_50 : decode cX9_moves 50 = .ok (.irem, 1) := zdcg 5 zdT_dX9_moves_43 rfl
theorem dX9_moves_51 : decode cX9_moves 51 = .ok (.iadd, 1) := zdcg 6 zdT_dX9_moves_43 rfl
theorem dX9_moves_52 : decode cX9_moves 52 = .ok (.iastore, 1) := zdcg 7 zdT_dX9_moves_43 rfl
theorem dX9_moves_53 : decode cX9_moves 53 = .ok (.iinc 6 1, 3) := zdcg 8 zdT_dX9_moves_43 rfl
theorem dX9_moves_56 : decode cX9_moves 56 = .ok (.goto (-28), 3) := zdcg 9 zdT_dX9_moves_43 rfl
theorem dX9_moves_59 : decode cX9_moves 59 = .ok (.iload_n 3, 1) := zdcg 10 zdT_dX9_moves_43 rfl
theorem dX9_moves_60 : decode cX9_moves 60 = .ok (.iload 5, 2) := zdcg 11 zdT_dX9_moves_43 rfl
theorem dX9_moves_62 : decode cX9_moves 62 = .ok (.iadd, 1) := zdcg 12 zdT_dX9_moves_43 rfl
theorem dX9_moves_63 : decode cX9_moves 63 = .ok (.istore_n 3, 1) := zdcg 13 zdT_dX9_moves_43 rfl
theorem dX9_moves_64 : decode cX9_moves 64 = .ok (.iinc 4 1, 3) := zdcg 14 zdT_dX9_moves_43 rfl
theorem dX9_moves_67 : decode cX9_moves 67 = .ok (.goto (-62), 3) := zdcg 15 zdT_dX9_moves_43 rfl
theorem dX9_moves_70 : decode cX9_moves 70 = .ok (.return_, 1) := zdcg 16 zdT_dX9_moves_43 rfl
theorem zdT_dX9_fixed_0 : zdch cX9_fixed [(0, (.aload_n 0, 1)), (1, (.iload_n 1, 1)), (2, (.iload_n 2, 1)), (3, (.invokevirtual 252, 3)), (6, (.aload_n 0, 1)), (7, (.aload_n 0, 1)), (8, (.getfield 75, 3)), (11, (.invokevirtual 234, 3)), (14, (.iconst 0, 1)), (15, (.istore_n 3, 1)), (16, (.iload_n 3, 1)), (17, (.aload_n 0, 1)), (18, (.getfield 56, 3)), (21, (.aload_n 0, 1)), (22, (.getfield 205, 3)), (25, (.iaload, 1)), (26, (.if_icmp .ge 100, 3)), (29, (.iconst 0, 1)), (30, (.istore 4, 2)), (32, (.iload 4, 2)), (34, (.aload_n 0, 1)), (35, (.getfield 56, 3)), (38, (.aload_n 0, 1)), (39, (.getfield 205, 3)), (42, (.iaload, 1))] = true := by decide +kernel
theorem dX9_fixed_0 : decode cX9_fixed 0 = .ok (.aload_n 0, 1) := zdcg 0 zdT_dX9_fixed_0 rfl
theorem dX9_fixed_1 : decode cX9_fixed 1 = .ok (.iload_n 1, 1) := zdcg 1 zdT_dX9_fixed_0 rfl
theorem dX9_fixed_2 : decode cX9_fixed 2 = .ok (.iload_n 2, 1) := zdcg 2 zdT_dX9_fixed_0 rfl
theorem dX9_fixed_3 : decode cX9_fixed 3 = .ok (.invokevirtual 252, 3) := zdcg 3 zdT_dX9_fixed_0 rfl
theorem dX9_fixed_6 : decode cX9_fixed 6 = .ok (.aload_n 0, 1) := zdcg 4 zdT_dX9_fixed_0 rfl
theorem dX9_fixed_7 : decode cX9_fixed 7 = .ok (.aload_n 0, 1) := zdcg 5 zdT_dX9_fixed_0 rfl
theorem dX9_fixed_8 : decode cX9_fixed 8 = .ok (.getfield 75, 3) := zdcg 6 zdT_dX9_fixed_0 rfl
theorem dX9_fixed_11 : decode cX9_fixed 11 = .ok (.invokevirtual 234, 3) := zdcg 7 zdT_dX9_fixed_0 rfl
theorem dX9_fixed_14 : decode cX9_fixed 14 = .ok (.iconst 0, 1) := zdcg 8 zdT_dX9_fixed_0 rfl
theorem dX9_fixed_15 : decode cX9_fixed 15 = .ok (.istore_n 3, 1) := zdcg 9 zdT_dX9_fixed_0 rfl
theorem dX9_fixed_16 : decode cX9_fixed 16 = .ok (.iload_n 3, 1) := zdcg 10 zdT_dX9_fixed_0 rfl
theorem dX9_fixed_17 : decode cX9_fixed 17 = .ok (.aload_n 0, 1) := zdcg 11 zdT_dX9_fixed_0 rfl
theorem dX9_fixed_18 : decode cX9_fixed 18 = .ok (.getfield 56, 3) := zdcg 12 zdT_dX9_fixed_0 rfl
theorem dX9_fixed_21 : decode cX9_fixed 21 = .ok (.aload_n 0, 1) := zdcg 13 zdT_dX9_fixed_0 rfl
theorem dX9_fixed_22 : decode cX9_fixed 22 = .ok (.getfield 205, 3) := zdcg 14 zdT_dX9_fixed_0 rfl
theorem dX9_fixed_25 : decode cX9_fixed 25 = .ok (.iaload, 1) := zdcg 15 zdT_dX9_fixed_0 rfl
theorem dX9_fixed_26 : decode cX9_fixed 26 = .ok (.if_icmp .ge 100, 3) := zdcg 16 zdT_dX9_fixed_0 rfl
theorem dX9_fixed_29 : decode cX9_fixed 29 = .ok (.iconst 0, 1) := zdcg 17 zdT_dX9_fixed_0 rfl
theorem dX9_fixed_30 : decode cX9_fixed 30 = .ok (.istore 4, 2) := zdcg 18 zdT_dX9_fixed_0 rfl
theorem dX9_fixed_32 : decode cX9_fixed 32 = .ok (.iload 4, 2) := zdcg 19 zdT_dX9_fixed_0 rfl
theorem dX9_fixed_34 : decode cX9_fixed 34 = .ok (.aload_n 0, 1) := zdcg 20 zdT_dX9_fixed_0 rfl
theorem dX9_fixed_35 : decode cX9_fixed 35 = .ok (.getfield 56, 3) := zdcg 21 zdT_dX9_fixed_0 rfl
theorem dX9_fixed_38 : decode cX9_fixed 38 = .ok (.aload_n 0, 1) := zdcg 22 zdT_dX9_fixed_0 rfl
theorem dX9_fixed_39 : decode cX9_fixed 39 = .ok (.getfield 205, 3) := zdcg 23 zdT_dX9_fixed_0 rfl
theorem dX9_fixed_42 : decode cX9_fixed 42 = .ok (.iaload, 1) := zdcg 24 zdT_dX9_fixed_0 rfl
theorem zdT_dX9_fixed_43 : zdch cX9_fixed [(43, (.if_icmp .ge 77, 3)), (46, (.aload_n 0, 1)), (47, (.aload_n 0, 1)), (48, (.getfield 72, 3)), (51, (.iload_n 3, 1)), (52, (.aload_n 0, 1)), (53, (.getfield 75, 3)), (56, (.iload 4, 2)), (58, (.invokevirtual 245, 3)), (61, (.aload_n 0, 1)), (62, (.getfield 90, 3)), (65, (.sipush 256, 3)), (68, (.aload_n 0, 1)), (69, (.getfield 205, 3)), (72, (.imul, 1)), (73, (.bipush 16, 2)), (75, (.iload_n 3, 1)), (76, (.imul, 1)), (77, (.iadd, 1)), (78, (.iload 4, 2)), (80, (.iadd, 1)), (81, (.iaload, 1)), (82, (.isub, 1)), (83, (.istore 5, 2)), (85, (.aload_n 0, 1))] = true := by decide +kernel
theorem dX9_fixed_43 : decode cX9_fixed 43 = .ok (.if_icmp .ge 77, 3) := zdcg 0 zdT_dX9_fixed_43 rfl
theorem dX9_fixed_46 : decode cX9_fixed 46 = .ok (.aload_n 0, 1) := zdcg 1 zdT_dX9_fixed_43 rfl
theorem dX9_fixed_47 : decode cX9_fixed 47 = .ok (.aload_n 0, 1) := zdcg 2 zdT_dX9_fixed_43 rfl
theorem dX9_fixed_48 : decode cX9_fixed 48 = .ok (.getfield 72, 3) := zdcg 3 zdT_dX9_fixed_43 rfl
theorem dX9_fixed_51 : decode cX9_fixed 51 = .ok (.iload_n 3, 1) := zdcg 4 zdT_dX9_fixed_43 rfl
theorem dX9_fixed_52 : decode cX9_fixed 52 = .ok (.aload_n 0, 1) := zdcg 5 zdT_dX9_fixed_43 rfl
theorem dX9_fixed_53 : decode cX9_fixed 53 = .ok (.getfield 75, 3) := zdcg 6 zdT_dX9_fixed_43 rfl
theorem dX9_fixed_56 : decode cX9_fixed 56 = .ok (.iload 4, 2) := zdcg 7 zdT_dX9_fixed_43 rfl
theorem dX9_fixed_58 : decode cX9_fixed 58 = .ok (.invokevirtual 245, 3) := zdcg 8 zdT_dX9_fixed_43 rfl
theorem dX9_fixed_61 : decode cX9_fixed 61 = .ok (.aload_n 0, 1) := zdcg 9 zdT_dX9_fixed_43 rfl
theorem dX9_fixed_62 : decode cX9_fixed 62 = .ok (.getfield 90, 3) := zdcg 10 zdT_dX9_fixed_43 rfl
theorem dX9_fixed_65 : decode cX9_fixed 65 = .ok (.sipush 256, 3) := zdcg 11 zdT_dX9_fixed_43 rfl
theorem dX9_fixed_68 : decode cX9_fixed 68 = .ok (.aload_n 0, 1) := zdcg 12 zdT_dX9_fixed_43 rfl
theorem dX9_fixed_69 : decode cX9_fixed 69 = .ok (.getfield 205, 3) := zdcg 13 zdT_dX9_fixed_43 rfl
theorem dX9_fixed_72 : decode cX9_fixed 72 = .ok (.imul, 1) := zdcg 14 zdT_dX9_fixed_43 rfl
theorem dX9_fixed_73 : decode cX9_fixed 73 = .ok (.bipush 16, 2) := zdcg 15 zdT_dX9_fixed_43 rfl
theorem dX9_fixed_75 : decode cX9_fixed 75 = .ok (.iload_n 3, 1) := zdcg 16 zdT_dX9_fixed_43 rfl
theorem dX9_fixed_76 : decode cX9_fixed 76 = .ok (.imul, 1) := zdcg 17 zdT_dX9_fixed_43 rfl
theorem dX9_fixed_77 : decode cX9_fixed 77 = .ok (.iadd, 1) := zdcg 18 zdT_dX9_fixed_43 rfl
theorem dX9_fixed_78 : decode cX9_fixed 78 = .ok (.iload 4, 2) := zdcg 19 zdT_dX9_fixed_43 rfl
theorem dX9_fixed_80 : decode cX9_fixed 80 = .ok (.iadd, 1) := zdcg 20 zdT_dX9_fixed_43 rfl
theorem dX9_fixed_81 : decode cX9_fixed 81 = .ok (.iaload, 1) := zdcg 21 zdT_dX9_fixed_43 rfl
theorem dX9_fixed_82 : decode cX9_fixed 82 = .ok (.isub, 1) := zdcg 22 zdT_dX9_fixed_43 rfl
theorem dX9_fixed_83 : decode cX9_fixed 83 = .ok (.istore 5, 2) := zdcg 23 zdT_dX9_fixed_43 rfl
theorem dX9_fixed_85 : decode cX9_fixed 85 = .ok (.aload_n 0, 1) := zdcg 24 zdT_dX9_fixed_43 rfl
theorem zdT_dX9_fixed_86 : zdch cX9_fixed [(86, (.getfield 87, 3)), (89, (.bipush 16, 2)), (91, (.iload_n 3, 1)), (92, (.imul, 1)), (93, (.iload 4, 2)), (95, (.iadd, 1)), (96, (.iload 5, 2)), (98, (.aload_n 0, 1)), (99, (.getfield 184, 3)), (102, (.irem, 1)), (103, (.aload_n 0, 1)), (104, (.getfield 184, 3)), (107, (.iadd, 1)), (108, (.aload_n 0, 1)), (109, (.getfield 184, 3)), (112, (.irem, 1)), (113, (.iastore, 1)), (114, (.iinc 4 1, 3)), (117, (.goto (-85), 3)), (120, (.iinc 3 1, 3)), (123, (.goto (-107), 3)), (126, (.aload_n 0, 1)), (127, (.getfield 93, 3)), (130, (.aload_n 0, 1)), (131, (.getfield 205, 3))] = true := by decide +kernel
theorem dX9_fixed_86 : decode cX9_fixed 86 = .ok (.getfield 87, 3) := zdcg 0 zdT_dX9_fixed_86 rfl
theorem dX9_fixed_89 : decode cX9_fixed 89 = .ok (.bipush 16, 2) := zdcg 1 zdT_dX9_fixed_86 rfl
theorem dX9_fixed_91 : decode cX9_fixed 91 = .ok (.iload_n 3, 1) := zdcg 2 zdT_dX9_fixed_86 rfl
theorem dX9_fixed_92 : decode cX9_fixed 92 = .ok (.imul, 1) := zdcg 3 zdT_dX9_fixed_86 rfl
theorem dX9_fixed_93 : decode cX9_fixed 93 = .ok (.iload 4, 2) := zdcg 4 zdT_dX9_fixed_86 rfl
theorem dX9_fixed_95 : decode cX9_fixed 95 = .ok (.iadd, 1) := zdcg 5 zdT_dX9_fixed_86 rfl
theorem dX9_fixed_96 : decode cX9_fixed 96 = .ok (.iload 5, 2) := zdcg 6 zdT_dX9_fixed_86 rfl
theorem dX9_fixed_98 : decode cX9_fixed 98 = .ok (.aload_n 0, 1) := zdcg 7 zdT_dX9_fixed_86 rfl
theorem dX9_fixed_99 : decode cX9_fixed 99 = .ok (.getfield 184, 3) := zdcg 8 zdT_dX9_fixed_86 rfl
theorem dX9_fixed_102 : decode cX9_fixed 102 = .ok (.irem, 1) := zdcg 9 zdT_dX9_fixed_86 rfl
theorem dX9_fixed_103 : decode cX9_fixed 103 = .ok (.aload_n 0, 1) := zdcg 10 zdT_dX9_fixed_86 rfl
theorem dX9_fixed_104 : decode cX9_fixed 104 = .ok (.getfield 184, 3) := zdcg 11 zdT_dX9_fixed_86 rfl
theorem dX9_fixed_107 : decode cX9_fixed 107 = .ok (.iadd, 1) := zdcg 12 zdT_dX9_fixed_86 rfl
theorem dX9_fixed_108 : decode cX9_fixed 108 = .ok (.aload_n 0, 1) := zdcg 13 zdT_dX9_fixed_86 rfl
theorem dX9_fixed_109 : decode cX9_fixed 109 = .ok (.getfield 184, 3) := zdcg 14 zdT_dX9_fixed_86 rfl
theorem dX9_fixed_112 : decode cX9_fixed 112 = .ok (.irem, 1) := zdcg 15 zdT_dX9_fixed_86 rfl
theorem dX9_fixed_113 : decode cX9_fixed 113 = .ok (.iastore, 1) := zdcg 16 zdT_dX9_fixed_86 rfl
theorem dX9_fixed_114 : decode cX9_fixed 114 = .ok (.iinc 4 1, 3) := zdcg 17 zdT_dX9_fixed_86 rfl
theorem dX9_fixed_117 : decode cX9_fixed 117 = .ok (.goto (-85), 3) := zdcg 18 zdT_dX9_fixed_86 rfl
theorem dX9_fixed_120 : decode cX9_fixed 120 = .ok (.iinc 3 1, 3) := zdcg 19 zdT_dX9_fixed_86 rfl
theorem dX9_fixed_123 : decode cX9_fixed 123 = .ok (.goto (-107), 3) := zdcg 20 zdT_dX9_fixed_86 rfl
theorem dX9_fixed_126 : decode cX9_fixed 126 = .ok (.aload_n 0, 1) := zdcg 21 zdT_dX9_fixed_86 rfl
theorem dX9_fixed_127 : decode cX9_fixed 127 = .ok (.getfield 93, 3) := zdcg 22 zdT_dX9_fixed_86 rfl
theorem dX9_fixed_130 : decode cX9_fixed 130 = .ok (.aload_n 0, 1) := zdcg 23 zdT_dX9_fixed_86 rfl
theorem dX9_fixed_131 : decode cX9_fixed 131 = .ok (.getfield 205, 3) := zdcg 24 zdT_dX9_fixed_86 rfl
theorem zdT_dX9_fixed_134 : zdch cX9_fixed [(134, (.iaload, 1)), (135, (.aload_n 0, 1)), (136, (.aload_n 0, 1)), (137, (.getfield 56, 3)), (140, (.aload_n 0, 1)), (141, (.getfield 205, 3)), (144, (.iaload, 1)), (145, (.invokevirtual 249, 3)), (148, (.isub, 1)), (149, (.ireturn, 1))] = true := by decide +kernel
theorem dX9_fixed_134 : decode cX9_fixed 134 = .ok (.iaload, 1) := zdcg 0 zdT_dX9_fixed_134 rfl
theorem dX9_fixed_135 : decode cX9_fixed 135 = .ok (.aload_n 0, 1) := zdcg 1 zdT_dX9_fixed_134 rfl
theorem dX9_fixed_136 : decode cX9_fixed 136 = .ok (.aload_n 0, 1) := zdcg 2 zdT_dX9_fixed_134 rfl
theorem dX9_fixed_137 : decode cX9_fixed 137 = .ok (.getfield 56, 3) := zdcg 3 zdT_dX9_fixed_134 rfl
theorem dX9_fixed_140 : decode cX9_fixed 140 = .ok (.aload_n 0, 1) := zdcg 4 zdT_dX9_fixed_134 rfl
theorem dX9_fixed_141 : decode cX9_fixed 141 = .ok (.getfield 205, 3) := zdcg 5 zdT_dX9_fixed_134 rfl
theorem dX9_fixed_144 : decode cX9_fixed 144 = .ok (.iaload, 1) := zdcg 6 zdT_dX9_fixed_134 rfl
theorem dX9_fixed_145 : decode cX9_fixed 145 = .ok (.invokevirtual 249, 3) := zdcg 7 zdT_dX9_fixed_134 rfl
theorem dX9_fixed_148 : decode cX9_fixed 148 = .ok (.isub, 1) := zdcg 8 zdT_dX9_fixed_134 rfl
theorem dX9_fixed_149 : decode cX9_fixed 149 = .ok (.ireturn, 1) := zdcg 9 zdT_dX9_fixed_134 rfl
theorem zdT_dX9_mobius_0 : zdch cX9_mobius [(0, (.iload_n 0, 1)), (1, (.iconst 1, 1)), (2, (.if_icmp .eq 9, 3)), (5, (.iload_n 0, 1)), (6, (.bipush 6, 2)), (8, (.if_icmp .ne 7, 3)), (11, (.iconst 1, 1)), (12, (.goto 13, 3)), (15, (.iload_n 0, 1)), (16, (.iconst 4, 1)), (17, (.if_icmp .ne 7, 3)), (20, (.iconst 0, 1)), (21, (.goto 4, 3)), (24, (.iconst (-1), 1)), (25, (.ireturn, 1))] = true := by decide +kernel
theorem dX9_mobius_0 : decode cX9_mobius 0 = .ok (.iload_n 0, 1) := zdcg 0 zdT_dX9_mobius_0 rfl
theorem dX9_mobius_1 : decode cX9_mobius 1 = .ok (.iconst 1, 1) := zdcg 1 zdT_dX9_mobius_0 rfl
theorem dX9_mobius_2 : decode cX9_mobius 2 = .ok (.if_icmp .eq 9, 3) := zdcg 2 zdT_dX9_mobius_0 rfl
theorem dX9_mobius_5 : decode cX9_mobius 5 = .ok (.iload_n 0, 1) := zdcg 3 zdT_dX9_mobius_0 rfl
theorem dX9_mobius_6 : decode cX9_mobius 6 = .ok (.bipush 6, 2) := zdcg 4 zdT_dX9_mobius_0 rfl
theorem dX9_mobius_8 : decode cX9_mobius 8 = .ok (.if_icmp .ne 7, 3) := zdcg 5 zdT_dX9_mobius_0 rfl
theorem dX9_mobius_11 : decode cX9_mobius 11 = .ok (.iconst 1, 1) := zdcg 6 zdT_dX9_mobius_0 rfl
theorem dX9_mobius_12 : decode cX9_mobius 12 = .ok (.goto 13, 3) := zdcg 7 zdT_dX9_mobius_0 rfl
theorem dX9_mobius_15 : decode cX9_mobius 15 = .ok (.iload_n 0, 1) := zdcg 8 zdT_dX9_mobius_0 rfl
theorem dX9_mobius_16 : decode cX9_mobius 16 = .ok (.iconst 4, 1) := zdcg 9 zdT_dX9_mobius_0 rfl
theorem dX9_mobius_17 : decode cX9_mobius 17 = .ok (.if_icmp .ne 7, 3) := zdcg 10 zdT_dX9_mobius_0 rfl
theorem dX9_mobius_20 : decode cX9_mobius 20 = .ok (.iconst 0, 1) := zdcg 11 zdT_dX9_mobius_0 rfl
theorem dX9_mobius_21 : decode cX9_mobius 21 = .ok (.goto 4, 3) := zdcg 12 zdT_dX9_mobius_0 rfl
theorem dX9_mobius_24 : decode cX9_mobius 24 = .ok (.iconst (-1), 1) := zdcg 13 zdT_dX9_mobius_0 rfl
theorem dX9_mobius_25 : decode cX9_mobius 25 = .ok (.ireturn, 1) := zdcg 14 zdT_dX9_mobius_0 rfl
theorem zdT_dX9_units_0 : zdch cX9_units [(0, (.iload_n 0, 1)), (1, (.iconst 3, 1)), (2, (.if_icmp .ge 7, 3)), (5, (.iconst 1, 1)), (6, (.goto 13, 3)), (9, (.iload_n 0, 1)), (10, (.iconst 5, 1)), (11, (.if_icmp .ne 7, 3)), (14, (.iconst 4, 1)), (15, (.goto 4, 3)), (18, (.iconst 2, 1)), (19, (.ireturn, 1))] = true := by decide +kernel
theorem dX9_units_0 : decode cX9_units 0 = .ok (.iload_n 0, 1) := zdcg 0 zdT_dX9_units_0 rfl
theorem dX9_units_1 : decode cX9_units 1 = .ok (.iconst 3, 1) := zdcg 1 zdT_dX9_units_0 rfl
theorem dX9_units_2 : decode cX9_units 2 = .ok (.if_icmp .ge 7, 3) := zdcg 2 zdT_dX9_units_0 rfl
theorem dX9_units_5 : decode cX9_units 5 = .ok (.iconst 1, 1) := zdcg 3 zdT_dX9_units_0 rfl
theorem dX9_units_6 : decode cX9_units 6 = .ok (.goto 13, 3) := zdcg 4 zdT_dX9_units_0 rfl
theorem dX9_units_9 : decode cX9_units 9 = .ok (.iload_n 0, 1) := zdcg 5 zdT_dX9_units_0 rfl
theorem dX9_units_10 : decode cX9_units 10 = .ok (.iconst 5, 1) := zdcg 6 zdT_dX9_units_0 rfl
theorem dX9_units_11 : decode cX9_units 11 = .ok (.if_icmp .ne 7, 3) := zdcg 7 zdT_dX9_units_0 rfl
theorem dX9_units_14 : decode cX9_units 14 = .ok (.iconst 4, 1) := zdcg 8 zdT_dX9_units_0 rfl
theorem dX9_units_15 : decode cX9_units 15 = .ok (.goto 4, 3) := zdcg 9 zdT_dX9_units_0 rfl
theorem dX9_units_18 : decode cX9_units 18 = .ok (.iconst 2, 1) := zdcg 10 zdT_dX9_units_0 rfl
theorem dX9_units_19 : decode cX9_units 19 = .ok (.ireturn, 1) := zdcg 11 zdT_dX9_units_0 rfl
theorem zdT_dX9_modularOf_0 : zdch cX9_modularOf [(0, (.iconst 0, 1)), (1, (.istore_n 2, 1)), (2, (.iconst 1, 1)), (3, (.istore_n 3, 1)), (4, (.iload_n 3, 1)), (5, (.aload_n 0, 1)), (6, (.getfield 19, 3)), (9, (.iload_n 1, 1)), (10, (.iaload, 1)), (11, (.if_icmp .gt 83, 3)), (14, (.aload_n 0, 1)), (15, (.getfield 19, 3)), (18, (.iload_n 1, 1)), (19, (.iaload, 1)), (20, (.iload_n 3, 1)), (21, (.irem, 1)), (22, (.ifCond .eq 6, 3)), (25, (.goto 63, 3)), (28, (.iconst 0, 1)), (29, (.istore 4, 2)), (31, (.iconst 1, 1)), (32, (.istore 5, 2)), (34, (.iload 5, 2)), (36, (.iload_n 3, 1)), (37, (.if_icmp .gt 36, 3))] = true := by decide +kernel
theorem dX9_modularOf_0 : decode cX9_modularOf 0 = .ok (.iconst 0, 1) := zdcg 0 zdT_dX9_modularOf_0 rfl
theorem dX9_modularOf_1 : decode cX9_modularOf 1 = .ok (.istore_n 2, 1) := zdcg 1 zdT_dX9_modularOf_0 rfl
theorem dX9_modularOf_2 : decode cX9_modularOf 2 = .ok (.iconst 1, 1) := zdcg 2 zdT_dX9_modularOf_0 rfl
theorem dX9_modularOf_3 : decode cX9_modularOf 3 = .ok (.istore_n 3, 1) := zdcg 3 zdT_dX9_modularOf_0 rfl
theorem dX9_modularOf_4 : decode cX9_modularOf 4 = .ok (.iload_n 3, 1) := zdcg 4 zdT_dX9_modularOf_0 rfl
theorem dX9_modularOf_5 : decode cX9_modularOf 5 = .ok (.aload_n 0, 1) := zdcg 5 zdT_dX9_modularOf_0 rfl
theorem dX9_modularOf_6 : decode cX9_modularOf 6 = .ok (.getfield 19, 3) := zdcg 6 zdT_dX9_modularOf_0 rfl
theorem dX9_modularOf_9 : decode cX9_modularOf 9 = .ok (.iload_n 1, 1) := zdcg 7 zdT_dX9_modularOf_0 rfl
theorem dX9_modularOf_10 : decode cX9_modularOf 10 = .ok (.iaload, 1) := zdcg 8 zdT_dX9_modularOf_0 rfl
theorem dX9_modularOf_11 : decode cX9_modularOf 11 = .ok (.if_icmp .gt 83, 3) := zdcg 9 zdT_dX9_modularOf_0 rfl
theorem dX9_modularOf_14 : decode cX9_modularOf 14 = .ok (.aload_n 0, 1) := zdcg 10 zdT_dX9_modularOf_0 rfl
theorem dX9_modularOf_15 : decode cX9_modularOf 15 = .ok (.getfield 19, 3) := zdcg 11 zdT_dX9_modularOf_0 rfl
theorem dX9_modularOf_18 : decode cX9_modularOf 18 = .ok (.iload_n 1, 1) := zdcg 12 zdT_dX9_modularOf_0 rfl
theorem dX9_modularOf_19 : decode cX9_modularOf 19 = .ok (.iaload, 1) := zdcg 13 zdT_dX9_modularOf_0 rfl
theorem dX9_modularOf_20 : decode cX9_modularOf 20 = .ok (.iload_n 3, 1) := zdcg 14 zdT_dX9_modularOf_0 rfl
theorem dX9_modularOf_21 : decode cX9_modularOf 21 = .ok (.irem, 1) := zdcg 15 zdT_dX9_modularOf_0 rfl
theorem dX9_modularOf_22 : decode cX9_modularOf 22 = .ok (.ifCond .eq 6, 3) := zdcg 16 zdT_dX9_modularOf_0 rfl
theorem dX9_modularOf_25 : decode cX9_modularOf 25 = .ok (.goto 63, 3) := zdcg 17 zdT_dX9_modularOf_0 rfl
theorem dX9_modularOf_28 : decode cX9_modularOf 28 = .ok (.iconst 0, 1) := zdcg 18 zdT_dX9_modularOf_0 rfl
theorem dX9_modularOf_29 : decode cX9_modularOf 29 = .ok (.istore 4, 2) := zdcg 19 zdT_dX9_modularOf_0 rfl
theorem dX9_modularOf_31 : decode cX9_modularOf 31 = .ok (.iconst 1, 1) := zdcg 20 zdT_dX9_modularOf_0 rfl
theorem dX9_modularOf_32 : decode cX9_modularOf 32 = .ok (.istore 5, 2) := zdcg 21 zdT_dX9_modularOf_0 rfl
theorem dX9_modularOf_34 : decode cX9_modularOf 34 = .ok (.iload 5, 2) := zdcg 22 zdT_dX9_modularOf_0 rfl
theorem dX9_modularOf_36 : decode cX9_modularOf 36 = .ok (.iload_n 3, 1) := zdcg 23 zdT_dX9_modularOf_0 rfl
theorem dX9_modularOf_37 : decode cX9_modularOf 37 = .ok (.if_icmp .gt 36, 3) := zdcg 24 zdT_dX9_modularOf_0 rfl
theorem zdT_dX9_modularOf_40 : zdch cX9_modularOf [(40, (.iload_n 3, 1)), (41, (.iload 5, 2)), (43, (.irem, 1)), (44, (.ifCond .ne 23, 3)), (47, (.iload 4, 2)), (49, (.iload_n 3, 1)), (50, (.iload 5, 2)), (52, (.idiv, 1)), (53, (.invokestatic 255, 3)), (56, (.aload_n 0, 1)), (57, (.iload_n 1, 1)), (58, (.iload 5, 2)), (60, (.invokevirtual 258, 3)), (63, (.imul, 1)), (64, (.iadd, 1)), (65, (.istore 4, 2)), (67, (.iinc 5 1, 3)), (70, (.goto (-36), 3)), (73, (.iload_n 2, 1)), (74, (.iload 4, 2)), (76, (.iload_n 3, 1)), (77, (.invokestatic 261, 3)), (80, (.idiv, 1)), (81, (.iload_n 3, 1)), (82, (.invokestatic 255, 3))] = true := by decide +kernel
theorem dX9_modularOf_40 : decode cX9_modularOf 40 = .ok (.iload_n 3, 1) := zdcg 0 zdT_dX9_modularOf_40 rfl
theorem dX9_modularOf_41 : decode cX9_modularOf 41 = .ok (.iload 5, 2) := zdcg 1 zdT_dX9_modularOf_40 rfl
theorem dX9_modularOf_43 : decode cX9_modularOf 43 = .ok (.irem, 1) := zdcg 2 zdT_dX9_modularOf_40 rfl
theorem dX9_modularOf_44 : decode cX9_modularOf 44 = .ok (.ifCond .ne 23, 3) := zdcg 3 zdT_dX9_modularOf_40 rfl
theorem dX9_modularOf_47 : decode cX9_modularOf 47 = .ok (.iload 4, 2) := zdcg 4 zdT_dX9_modularOf_40 rfl
theorem dX9_modularOf_49 : decode cX9_modularOf 49 = .ok (.iload_n 3, 1) := zdcg 5 zdT_dX9_modularOf_40 rfl
theorem dX9_modularOf_50 : decode cX9_modularOf 50 = .ok (.iload 5, 2) := zdcg 6 zdT_dX9_modularOf_40 rfl
theorem dX9_modularOf_52 : decode cX9_modularOf 52 = .ok (.idiv, 1) := zdcg 7 zdT_dX9_modularOf_40 rfl
theorem dX9_modularOf_53 : decode cX9_modularOf 53 = .ok (.invokestatic 255, 3) := zdcg 8 zdT_dX9_modularOf_40 rfl
theorem dX9_modularOf_56 : decode cX9_modularOf 56 = .ok (.aload_n 0, 1) := zdcg 9 zdT_dX9_modularOf_40 rfl
theorem dX9_modularOf_57 : decode cX9_modularOf 57 = .ok (.iload_n 1, 1) := zdcg 10 zdT_dX9_modularOf_40 rfl
theorem dX9_modularOf_58 : decode cX9_modularOf 58 = .ok (.iload 5, 2) := zdcg 11 zdT_dX9_modularOf_40 rfl
theorem dX9_modularOf_60 : decode cX9_modularOf 60 = .ok (.invokevirtual 258, 3) := zdcg 12 zdT_dX9_modularOf_40 rfl
theorem dX9_modularOf_63 : decode cX9_modularOf 63 = .ok (.imul, 1) := zdcg 13 zdT_dX9_modularOf_40 rfl
theorem dX9_modularOf_64 : decode cX9_modularOf 64 = .ok (.iadd, 1) := zdcg 14 zdT_dX9_modularOf_40 rfl
theorem dX9_modularOf_65 : decode cX9_modularOf 65 = .ok (.istore 4, 2) := zdcg 15 zdT_dX9_modularOf_40 rfl
theorem dX9_modularOf_67 : decode cX9_modularOf 67 = .ok (.iinc 5 1, 3) := zdcg 16 zdT_dX9_modularOf_40 rfl
theorem dX9_modularOf_70 : decode cX9_modularOf 70 = .ok (.goto (-36), 3) := zdcg 17 zdT_dX9_modularOf_40 rfl
theorem dX9_modularOf_73 : decode cX9_modularOf 73 = .ok (.iload_n 2, 1) := zdcg 18 zdT_dX9_modularOf_40 rfl
theorem dX9_modularOf_74 : decode cX9_modularOf 74 = .ok (.iload 4, 2) := zdcg 19 zdT_dX9_modularOf_40 rfl
theorem dX9_modularOf_76 : decode cX9_modularOf 76 = .ok (.iload_n 3, 1) := zdcg 20 zdT_dX9_modularOf_40 rfl
theorem dX9_modularOf_77 : decode cX9_modularOf 77 = .ok (.invokestatic 261, 3) := zdcg 21 zdT_dX9_modularOf_40 rfl
theorem dX9_modularOf_80 : decode cX9_modularOf 80 = .ok (.idiv, 1) := zdcg 22 zdT_dX9_modularOf_40 rfl
theorem dX9_modularOf_81 : decode cX9_modularOf 81 = .ok (.iload_n 3, 1) := zdcg 23 zdT_dX9_modularOf_40 rfl
theorem dX9_modularOf_82 : decode cX9_modularOf 82 = .ok (.invokestatic 255, 3) := zdcg 24 zdT_dX9_modularOf_40 rfl
theorem zdT_dX9_modularOf_85 : zdch cX9_modularOf [(85, (.imul, 1)), (86, (.iadd, 1)), (87, (.istore_n 2, 1)), (88, (.iinc 3 1, 3)), (91, (.goto (-87), 3)), (94, (.iload_n 2, 1)), (95, (.ireturn, 1))] = true := by decide +kernel
theorem dX9_modularOf_85 : decode cX9_modularOf 85 = .ok (.imul, 1) := zdcg 0 zdT_dX9_modularOf_85 rfl
theorem dX9_modularOf_86 : decode cX9_modularOf 86 = .ok (.iadd, 1) := zdcg 1 zdT_dX9_modularOf_85 rfl
theorem dX9_modularOf_87 : decode cX9_modularOf 87 = .ok (.istore_n 2, 1) := zdcg 2 zdT_dX9_modularOf_85 rfl
theorem dX9_modularOf_88 : decode cX9_modularOf 88 = .ok (.iinc 3 1, 3) := zdcg 3 zdT_dX9_modularOf_85 rfl
theorem dX9_modularOf_91 : decode cX9_modularOf 91 = .ok (.goto (-87), 3) := zdcg 4 zdT_dX9_modularOf_85 rfl
theorem dX9_modularOf_94 : decode cX9_modularOf 94 = .ok (.iload_n 2, 1) := zdcg 5 zdT_dX9_modularOf_85 rfl
theorem dX9_modularOf_95 : decode cX9_modularOf 95 = .ok (.ireturn, 1) := zdcg 6 zdT_dX9_modularOf_85 rfl
theorem zdT_dX9_decomposes_0 : zdch cX9_decomposes [(0, (.iconst 0, 1)), (1, (.istore_n 1, 1)), (2, (.iconst 0, 1)), (3, (.istore_n 2, 1)), (4, (.iload_n 2, 1)), (5, (.aload_n 0, 1)), (6, (.getfield 153, 3)), (9, (.if_icmp .ge 125, 3)), (12, (.aload_n 0, 1)), (13, (.getfield 26, 3)), (16, (.iload_n 2, 1)), (17, (.baload, 1)), (18, (.ifCond .ne 6, 3)), (21, (.goto 107, 3)), (24, (.iconst 0, 1)), (25, (.istore_n 3, 1)), (26, (.iload_n 3, 1)), (27, (.aload_n 0, 1)), (28, (.getfield 153, 3)), (31, (.if_icmp .ge 94, 3)), (34, (.aload_n 0, 1)), (35, (.getfield 22, 3)), (38, (.iload_n 3, 1)), (39, (.baload, 1)), (40, (.ifCond .eq 42, 3))] = true := by decide +kernel
theorem dX9_decomposes_0 : decode cX9_decomposes 0 = .ok (.iconst 0, 1) := zdcg 0 zdT_dX9_decomposes_0 rfl
theorem dX9_decomposes_1 : decode cX9_decomposes 1 = .ok (.istore_n 1, 1) := zdcg 1 zdT_dX9_decomposes_0 rfl
theorem dX9_decomposes_2 : decode cX9_decomposes 2 = .ok (.iconst 0, 1) := zdcg 2 zdT_dX9_decomposes_0 rfl
theorem dX9_decomposes_3 : decode cX9_decomposes 3 = .ok (.istore_n 2, 1) := zdcg 3 zdT_dX9_decomposes_0 rfl
theorem dX9_decomposes_4 : decode cX9_decomposes 4 = .ok (.iload_n 2, 1) := zdcg 4 zdT_dX9_decomposes_0 rfl
theorem dX9_decomposes_5 : decode cX9_decomposes 5 = .ok (.aload_n 0, 1) := zdcg 5 zdT_dX9_decomposes_0 rfl
theorem dX9_decomposes_6 : decode cX9_decomposes 6 = .ok (.getfield 153, 3) := zdcg 6 zdT_dX9_decomposes_0 rfl
theorem dX9_decomposes_9 : decode cX9_decomposes 9 = .ok (.if_icmp .ge 125, 3) := zdcg 7 zdT_dX9_decomposes_0 rfl
theorem dX9_decomposes_12 : decode cX9_decomposes 12 = .ok (.aload_n 0, 1) := zdcg 8 zdT_dX9_decomposes_0 rfl
theorem dX9_decomposes_13 : decode cX9_decomposes 13 = .ok (.getfield 26, 3) := zdcg 9 zdT_dX9_decomposes_0 rfl
theorem dX9_decomposes_16 : decode cX9_decomposes 16 = .ok (.iload_n 2, 1) := zdcg 10 zdT_dX9_decomposes_0 rfl
theorem dX9_decomposes_17 : decode cX9_decomposes 17 = .ok (.baload, 1) := zdcg 11 zdT_dX9_decomposes_0 rfl
theorem dX9_decomposes_18 : decode cX9_decomposes 18 = .ok (.ifCond .ne 6, 3) := zdcg 12 zdT_dX9_decomposes_0 rfl
theorem dX9_decomposes_21 : decode cX9_decomposes 21 = .ok (.goto 107, 3) := zdcg 13 zdT_dX9_decomposes_0 rfl
theorem dX9_decomposes_24 : decode cX9_decomposes 24 = .ok (.iconst 0, 1) := zdcg 14 zdT_dX9_decomposes_0 rfl
theorem dX9_decomposes_25 : decode cX9_decomposes 25 = .ok (.istore_n 3, 1) := zdcg 15 zdT_dX9_decomposes_0 rfl
theorem dX9_decomposes_26 : decode cX9_decomposes 26 = .ok (.iload_n 3, 1) := zdcg 16 zdT_dX9_decomposes_0 rfl
theorem dX9_decomposes_27 : decode cX9_decomposes 27 = .ok (.aload_n 0, 1) := zdcg 17 zdT_dX9_decomposes_0 rfl
theorem dX9_decomposes_28 : decode cX9_decomposes 28 = .ok (.getfield 153, 3) := zdcg 18 zdT_dX9_decomposes_0 rfl
theorem dX9_decomposes_31 : decode cX9_decomposes 31 = .ok (.if_icmp .ge 94, 3) := zdcg 19 zdT_dX9_decomposes_0 rfl
theorem dX9_decomposes_34 : decode cX9_decomposes 34 = .ok (.aload_n 0, 1) := zdcg 20 zdT_dX9_decomposes_0 rfl
theorem dX9_decomposes_35 : decode cX9_decomposes 35 = .ok (.getfield 22, 3) := zdcg 21 zdT_dX9_decomposes_0 rfl
theorem dX9_decomposes_38 : decode cX9_decomposes 38 = .ok (.iload_n 3, 1) := zdcg 22 zdT_dX9_decomposes_0 rfl
theorem dX9_decomposes_39 : decode cX9_decomposes 39 = .ok (.baload, 1) := zdcg 23 zdT_dX9_decomposes_0 rfl
theorem dX9_decomposes_40 : decode cX9_decomposes 40 = .ok (.ifCond .eq 42, 3) := zdcg 24 zdT_dX9_decomposes_0 rfl
theorem zdT_dX9_decomposes_43 : zdch cX9_decomposes [(43, (.aload_n 0, 1)), (44, (.getfield 102, 3)), (47, (.bipush 22, 2)), (49, (.iload_n 1, 1)), (50, (.imul, 1)), (51, (.aload_n 0, 1)), (52, (.getfield 32, 3)), (55, (.iload_n 3, 1)), (56, (.iaload, 1)), (57, (.iadd, 1)), (58, (.aload_n 0, 1)), (59, (.getfield 96, 3)), (62, (.bipush 11, 2)), (64, (.iload_n 3, 1)), (65, (.imul, 1)), (66, (.iload_n 2, 1)), (67, (.iadd, 1)), (68, (.iaload, 1)), (69, (.sipush 32003, 3)), (72, (.irem, 1)), (73, (.sipush 32003, 3)), (76, (.iadd, 1)), (77, (.sipush 32003, 3)), (80, (.irem, 1)), (81, (.iastore, 1))] = true := by decide +kernel
theorem dX9_decomposes_43 : decode cX9_decomposes 43 = .ok (.aload_n 0, 1) := zdcg 0 zdT_dX9_decomposes_43 rfl
theorem dX9_decomposes_44 : decode cX9_decomposes 44 = .ok (.getfield 102, 3) := zdcg 1 zdT_dX9_decomposes_43 rfl
theorem dX9_decomposes_47 : decode cX9_decomposes 47 = .ok (.bipush 22, 2) := zdcg 2 zdT_dX9_decomposes_43 rfl
theorem dX9_decomposes_49 : decode cX9_decomposes 49 = .ok (.iload_n 1, 1) := zdcg 3 zdT_dX9_decomposes_43 rfl
theorem dX9_decomposes_50 : decode cX9_decomposes 50 = .ok (.imul, 1) := zdcg 4 zdT_dX9_decomposes_43 rfl
theorem dX9_decomposes_51 : decode cX9_decomposes 51 = .ok (.aload_n 0, 1) := zdcg 5 zdT_dX9_decomposes_43 rfl
theorem dX9_decomposes_52 : decode cX9_decomposes 52 = .ok (.getfield 32, 3) := zdcg 6 zdT_dX9_decomposes_43 rfl
theorem dX9_decomposes_55 : decode cX9_decomposes 55 = .ok (.iload_n 3, 1) := zdcg 7 zdT_dX9_decomposes_43 rfl
theorem dX9_decomposes_56 : decode cX9_decomposes 56 = .ok (.iaload, 1) := zdcg 8 zdT_dX9_decomposes_43 rfl
theorem dX9_decomposes_57 : decode cX9_decomposes 57 = .ok (.iadd, 1) := zdcg 9 zdT_dX9_decomposes_43 rfl
theorem dX9_decomposes_58 : decode cX9_decomposes 58 = .ok (.aload_n 0, 1) := zdcg 10 zdT_dX9_decomposes_43 rfl
theorem dX9_decomposes_59 : decode cX9_decomposes 59 = .ok (.getfield 96, 3) := zdcg 11 zdT_dX9_decomposes_43 rfl
theorem dX9_decomposes_62 : decode cX9_decomposes 62 = .ok (.bipush 11, 2) := zdcg 12 zdT_dX9_decomposes_43 rfl
theorem dX9_decomposes_64 : decode cX9_decomposes 64 = .ok (.iload_n 3, 1) := zdcg 13 zdT_dX9_decomposes_43 rfl
theorem dX9_decomposes_65 : decode cX9_decomposes 65 = .ok (.imul, 1) := zdcg 14 zdT_dX9_decomposes_43 rfl
theorem dX9_decomposes_66 : decode cX9_decomposes 66 = .ok (.iload_n 2, 1) := zdcg 15 zdT_dX9_decomposes_43 rfl
theorem dX9_decomposes_67 : decode cX9_decomposes 67 = .ok (.iadd, 1) := zdcg 16 zdT_dX9_decomposes_43 rfl
theorem dX9_decomposes_68 : decode cX9_decomposes 68 = .ok (.iaload, 1) := zdcg 17 zdT_dX9_decomposes_43 rfl
theorem dX9_decomposes_69 : decode cX9_decomposes 69 = .ok (.sipush 32003, 3) := zdcg 18 zdT_dX9_decomposes_43 rfl
theorem dX9_decomposes_72 : decode cX9_decomposes 72 = .ok (.irem, 1) := zdcg 19 zdT_dX9_decomposes_43 rfl
theorem dX9_decomposes_73 : decode cX9_decomposes 73 = .ok (.sipush 32003, 3) := zdcg 20 zdT_dX9_decomposes_43 rfl
theorem dX9_decomposes_76 : decode cX9_decomposes 76 = .ok (.iadd, 1) := zdcg 21 zdT_dX9_decomposes_43 rfl
theorem dX9_decomposes_77 : decode cX9_decomposes 77 = .ok (.sipush 32003, 3) := zdcg 22 zdT_dX9_decomposes_43 rfl
theorem dX9_decomposes_80 : decode cX9_decomposes 80 = .ok (.irem, 1) := zdcg 23 zdT_dX9_decomposes_43 rfl
theorem dX9_decomposes_81 : decode cX9_decomposes 81 = .ok (.iastore, 1) := zdcg 24 zdT_dX9_decomposes_43 rfl
theorem zdT_dX9_decomposes_82 : zdch cX9_decomposes [(82, (.aload_n 0, 1)), (83, (.getfield 102, 3)), (86, (.bipush 22, 2)), (88, (.iload_n 1, 1)), (89, (.imul, 1)), (90, (.bipush 11, 2)), (92, (.iadd, 1)), (93, (.iload_n 3, 1)), (94, (.iadd, 1)), (95, (.aload_n 0, 1)), (96, (.getfield 38, 3)), (99, (.bipush 11, 2)), (101, (.iload_n 3, 1)), (102, (.imul, 1)), (103, (.iload_n 2, 1)), (104, (.iadd, 1)), (105, (.iaload, 1)), (106, (.sipush 32003, 3)), (109, (.irem, 1)), (110, (.sipush 32003, 3)), (113, (.iadd, 1)), (114, (.sipush 32003, 3)), (117, (.irem, 1)), (118, (.iastore, 1)), (119, (.iinc 3 1, 3))] = true := by decide +kernel
theorem dX9_decomposes_82 : decode cX9_decomposes 82 = .ok (.aload_n 0, 1) := zdcg 0 zdT_dX9_decomposes_82 rfl
theorem dX9_decomposes_83 : decode cX9_decomposes 83 = .ok (.getfield 102, 3) := zdcg 1 zdT_dX9_decomposes_82 rfl
theorem dX9_decomposes_86 : decode cX9_decomposes 86 = .ok (.bipush 22, 2) := zdcg 2 zdT_dX9_decomposes_82 rfl
theorem dX9_decomposes_88 : decode cX9_decomposes 88 = .ok (.iload_n 1, 1) := zdcg 3 zdT_dX9_decomposes_82 rfl
theorem dX9_decomposes_89 : decode cX9_decomposes 89 = .ok (.imul, 1) := zdcg 4 zdT_dX9_decomposes_82 rfl
theorem dX9_decomposes_90 : decode cX9_decomposes 90 = .ok (.bipush 11, 2) := zdcg 5 zdT_dX9_decomposes_82 rfl
theorem dX9_decomposes_92 : decode cX9_decomposes 92 = .ok (.iadd, 1) := zdcg 6 zdT_dX9_decomposes_82 rfl
theorem dX9_decomposes_93 : decode cX9_decomposes 93 = .ok (.iload_n 3, 1) := zdcg 7 zdT_dX9_decomposes_82 rfl
theorem dX9_decomposes_94 : decode cX9_decomposes 94 = .ok (.iadd, 1) := zdcg 8 zdT_dX9_decomposes_82 rfl
theorem dX9_decomposes_95 : decode cX9_decomposes 95 = .ok (.aload_n 0, 1) := zdcg 9 zdT_dX9_decomposes_82 rfl
theorem dX9_decomposes_96 : decode cX9_decomposes 96 = .ok (.getfield 38, 3) := zdcg 10 zdT_dX9_decomposes_82 rfl
theorem dX9_decomposes_99 : decode cX9_decomposes 99 = .ok (.bipush 11, 2) := zdcg 11 zdT_dX9_decomposes_82 rfl
theorem dX9_decomposes_101 : decode cX9_decomposes 101 = .ok (.iload_n 3, 1) := zdcg 12 zdT_dX9_decomposes_82 rfl
theorem dX9_decomposes_102 : decode cX9_decomposes 102 = .ok (.imul, 1) := zdcg 13 zdT_dX9_decomposes_82 rfl
theorem dX9_decomposes_103 : decode cX9_decomposes 103 = .ok (.iload_n 2, 1) := zdcg 14 zdT_dX9_decomposes_82 rfl
theorem dX9_decomposes_104 : decode cX9_decomposes 104 = .ok (.iadd, 1) := zdcg 15 zdT_dX9_decomposes_82 rfl
theorem dX9_decomposes_105 : decode cX9_decomposes 105 = .ok (.iaload, 1) := zdcg 16 zdT_dX9_decomposes_82 rfl
theorem dX9_decomposes_106 : decode cX9_decomposes 106 = .ok (.sipush 32003, 3) := zdcg 17 zdT_dX9_decomposes_82 rfl
theorem dX9_decomposes_109 : decode cX9_decomposes 109 = .ok (.irem, 1) := zdcg 18 zdT_dX9_decomposes_82 rfl
theorem dX9_decomposes_110 : decode cX9_decomposes 110 = .ok (.sipush 32003, 3) := zdcg 19 zdT_dX9_decomposes_82 rfl
theorem dX9_decomposes_113 : decode cX9_decomposes 113 = .ok (.iadd, 1) := zdcg 20 zdT_dX9_decomposes_82 rfl
theorem dX9_decomposes_114 : decode cX9_decomposes 114 = .ok (.sipush 32003, 3) := zdcg 21 zdT_dX9_decomposes_82 rfl
theorem dX9_decomposes_117 : decode cX9_decomposes 117 = .ok (.irem, 1) := zdcg 22 zdT_dX9_decomposes_82 rfl
theorem dX9_decomposes_118 : decode cX9_decomposes 118 = .ok (.iastore, 1) := zdcg 23 zdT_dX9_decomposes_82 rfl
theorem dX9_decomposes_119 : decode cX9_decomposes 119 = .ok (.iinc 3 1, 3) := zdcg 24 zdT_dX9_decomposes_82 rfl
theorem zdT_dX9_decomposes_122 : zdch cX9_decomposes [(122, (.goto (-96), 3)), (125, (.iinc 1 1, 3)), (128, (.iinc 2 1, 3)), (131, (.goto (-127), 3)), (134, (.iconst 0, 1)), (135, (.istore_n 2, 1)), (136, (.iload_n 2, 1)), (137, (.aload_n 0, 1)), (138, (.getfield 172, 3)), (141, (.if_icmp .ge 294, 3)), (144, (.iload_n 2, 1)), (145, (.istore_n 3, 1)), (146, (.iload_n 3, 1)), (147, (.iload_n 1, 1)), (148, (.if_icmp .ge 23, 3)), (151, (.aload_n 0, 1)), (152, (.getfield 102, 3)), (155, (.bipush 22, 2)), (157, (.iload_n 3, 1)), (158, (.imul, 1)), (159, (.iload_n 2, 1)), (160, (.iadd, 1)), (161, (.iaload, 1)), (162, (.ifCond .ne 9, 3)), (165, (.iinc 3 1, 3))] = true := by decide +kernel
theorem dX9_decomposes_122 : decode cX9_decomposes 122 = .ok (.goto (-96), 3) := zdcg 0 zdT_dX9_decomposes_122 rfl
theorem dX9_decomposes_125 : decode cX9_decomposes 125 = .ok (.iinc 1 1, 3) := zdcg 1 zdT_dX9_decomposes_122 rfl
theorem dX9_decomposes_128 : decode cX9_decomposes 128 = .ok (.iinc 2 1, 3) := zdcg 2 zdT_dX9_decomposes_122 rfl
theorem dX9_decomposes_131 : decode cX9_decomposes 131 = .ok (.goto (-127), 3) := zdcg 3 zdT_dX9_decomposes_122 rfl
theorem dX9_decomposes_134 : decode cX9_decomposes 134 = .ok (.iconst 0, 1) := zdcg 4 zdT_dX9_decomposes_122 rfl
theorem dX9_decomposes_135 : decode cX9_decomposes 135 = .ok (.istore_n 2, 1) := zdcg 5 zdT_dX9_decomposes_122 rfl
theorem dX9_decomposes_136 : decode cX9_decomposes 136 = .ok (.iload_n 2, 1) := zdcg 6 zdT_dX9_decomposes_122 rfl
theorem dX9_decomposes_137 : decode cX9_decomposes 137 = .ok (.aload_n 0, 1) := zdcg 7 zdT_dX9_decomposes_122 rfl
theorem dX9_decomposes_138 : decode cX9_decomposes 138 = .ok (.getfield 172, 3) := zdcg 8 zdT_dX9_decomposes_122 rfl
theorem dX9_decomposes_141 : decode cX9_decomposes 141 = .ok (.if_icmp .ge 294, 3) := zdcg 9 zdT_dX9_decomposes_122 rfl
theorem dX9_decomposes_144 : decode cX9_decomposes 144 = .ok (.iload_n 2, 1) := zdcg 10 zdT_dX9_decomposes_122 rfl
theorem dX9_decomposes_145 : decode cX9_decomposes 145 = .ok (.istore_n 3, 1) := zdcg 11 zdT_dX9_decomposes_122 rfl
theorem dX9_decomposes_146 : decode cX9_decomposes 146 = .ok (.iload_n 3, 1) := zdcg 12 zdT_dX9_decomposes_122 rfl
theorem dX9_decomposes_147 : decode cX9_decomposes 147 = .ok (.iload_n 1, 1) := zdcg 13 zdT_dX9_decomposes_122 rfl
theorem dX9_decomposes_148 : decode cX9_decomposes 148 = .ok (.if_icmp .ge 23, 3) := zdcg 14 zdT_dX9_decomposes_122 rfl
theorem dX9_decomposes_151 : decode cX9_decomposes 151 = .ok (.aload_n 0, 1) := zdcg 15 zdT_dX9_decomposes_122 rfl
theorem dX9_decomposes_152 : decode cX9_decomposes 152 = .ok (.getfield 102, 3) := zdcg 16 zdT_dX9_decomposes_122 rfl
theorem dX9_decomposes_155 : decode cX9_decomposes 155 = .ok (.bipush 22, 2) := zdcg 17 zdT_dX9_decomposes_122 rfl
theorem dX9_decomposes_157 : decode cX9_decomposes 157 = .ok (.iload_n 3, 1) := zdcg 18 zdT_dX9_decomposes_122 rfl
theorem dX9_decomposes_158 : decode cX9_decomposes 158 = .ok (.imul, 1) := zdcg 19 zdT_dX9_decomposes_122 rfl
theorem dX9_decomposes_159 : decode cX9_decomposes 159 = .ok (.iload_n 2, 1) := zdcg 20 zdT_dX9_decomposes_122 rfl
theorem dX9_decomposes_160 : decode cX9_decomposes 160 = .ok (.iadd, 1) := zdcg 21 zdT_dX9_decomposes_122 rfl
theorem dX9_decomposes_161 : decode cX9_decomposes 161 = .ok (.iaload, 1) := zdcg 22 zdT_dX9_decomposes_122 rfl
theorem dX9_decomposes_162 : decode cX9_decomposes 162 = .ok (.ifCond .ne 9, 3) := zdcg 23 zdT_dX9_decomposes_122 rfl
theorem dX9_decomposes_165 : decode cX9_decomposes 165 = .ok (.iinc 3 1, 3) := zdcg 24 zdT_dX9_decomposes_122 rfl
theorem zdT_dX9_decomposes_168 : zdch cX9_decomposes [(168, (.goto (-22), 3)), (171, (.iconst 0, 1)), (172, (.istore 4, 2)), (174, (.iload 4, 2)), (176, (.bipush 22, 2)), (178, (.if_icmp .ge 66, 3)), (181, (.iload_n 3, 1)), (182, (.iload_n 1, 1)), (183, (.if_icmp .ge 61, 3)), (186, (.aload_n 0, 1)), (187, (.getfield 102, 3)), (190, (.bipush 22, 2)), (192, (.iload_n 3, 1)), (193, (.imul, 1)), (194, (.iload 4, 2)), (196, (.iadd, 1)), (197, (.iaload, 1)), (198, (.istore 5, 2)), (200, (.aload_n 0, 1)), (201, (.getfield 102, 3)), (204, (.bipush 22, 2)), (206, (.iload_n 3, 1)), (207, (.imul, 1)), (208, (.iload 4, 2)), (210, (.iadd, 1))] = true := by decide +kernel
theorem dX9_decomposes_168 : decode cX9_decomposes 168 = .ok (.goto (-22), 3) := zdcg 0 zdT_dX9_decomposes_168 rfl
theorem dX9_decomposes_171 : decode cX9_decomposes 171 = .ok (.iconst 0, 1) := zdcg 1 zdT_dX9_decomposes_168 rfl
theorem dX9_decomposes_172 : decode cX9_decomposes 172 = .ok (.istore 4, 2) := zdcg 2 zdT_dX9_decomposes_168 rfl
theorem dX9_decomposes_174 : decode cX9_decomposes 174 = .ok (.iload 4, 2) := zdcg 3 zdT_dX9_decomposes_168 rfl
theorem dX9_decomposes_176 : decode cX9_decomposes 176 = .ok (.bipush 22, 2) := zdcg 4 zdT_dX9_decomposes_168 rfl
theorem dX9_decomposes_178 : decode cX9_decomposes 178 = .ok (.if_icmp .ge 66, 3) := zdcg 5 zdT_dX9_decomposes_168 rfl
theorem dX9_decomposes_181 : decode cX9_decomposes 181 = .ok (.iload_n 3, 1) := zdcg 6 zdT_dX9_decomposes_168 rfl
theorem dX9_decomposes_182 : decode cX9_decomposes 182 = .ok (.iload_n 1, 1) := zdcg 7 zdT_dX9_decomposes_168 rfl
theorem dX9_decomposes_183 : decode cX9_decomposes 183 = .ok (.if_icmp .ge 61, 3) := zdcg 8 zdT_dX9_decomposes_168 rfl
theorem dX9_decomposes_186 : decode cX9_decomposes 186 = .ok (.aload_n 0, 1) := zdcg 9 zdT_dX9_decomposes_168 rfl
theorem dX9_decomposes_187 : decode cX9_decomposes 187 = .ok (.getfield 102, 3) := zdcg 10 zdT_dX9_decomposes_168 rfl
theorem dX9_decomposes_190 : decode cX9_decomposes 190 = .ok (.bipush 22, 2) := zdcg 11 zdT_dX9_decomposes_168 rfl
theorem dX9_decomposes_192 : decode cX9_decomposes 192 = .ok (.iload_n 3, 1) := zdcg 12 zdT_dX9_decomposes_168 rfl
theorem dX9_decomposes_193 : decode cX9_decomposes 193 = .ok (.imul, 1) := zdcg 13 zdT_dX9_decomposes_168 rfl
theorem dX9_decomposes_194 : decode cX9_decomposes 194 = .ok (.iload 4, 2) := zdcg 14 zdT_dX9_decomposes_168 rfl
theorem dX9_decomposes_196 : decode cX9_decomposes 196 = .ok (.iadd, 1) := zdcg 15 zdT_dX9_decomposes_168 rfl
theorem dX9_decomposes_197 : decode cX9_decomposes 197 = .ok (.iaload, 1) := zdcg 16 zdT_dX9_decomposes_168 rfl
theorem dX9_decomposes_198 : decode cX9_decomposes 198 = .ok (.istore 5, 2) := zdcg 17 zdT_dX9_decomposes_168 rfl
theorem dX9_decomposes_200 : decode cX9_decomposes 200 = .ok (.aload_n 0, 1) := zdcg 18 zdT_dX9_decomposes_168 rfl
theorem dX9_decomposes_201 : decode cX9_decomposes 201 = .ok (.getfield 102, 3) := zdcg 19 zdT_dX9_decomposes_168 rfl
theorem dX9_decomposes_204 : decode cX9_decomposes 204 = .ok (.bipush 22, 2) := zdcg 20 zdT_dX9_decomposes_168 rfl
theorem dX9_decomposes_206 : decode cX9_decomposes 206 = .ok (.iload_n 3, 1) := zdcg 21 zdT_dX9_decomposes_168 rfl
theorem dX9_decomposes_207 : decode cX9_decomposes 207 = .ok (.imul, 1) := zdcg 22 zdT_dX9_decomposes_168 rfl
theorem dX9_decomposes_208 : decode cX9_decomposes 208 = .ok (.iload 4, 2) := zdcg 23 zdT_dX9_decomposes_168 rfl
theorem dX9_decomposes_210 : decode cX9_decomposes 210 = .ok (.iadd, 1) := zdcg 24 zdT_dX9_decomposes_168 rfl
theorem zdT_dX9_decomposes_211 : zdch cX9_decomposes [(211, (.aload_n 0, 1)), (212, (.getfield 102, 3)), (215, (.bipush 22, 2)), (217, (.iload_n 2, 1)), (218, (.imul, 1)), (219, (.iload 4, 2)), (221, (.iadd, 1)), (222, (.iaload, 1)), (223, (.iastore, 1)), (224, (.aload_n 0, 1)), (225, (.getfield 102, 3)), (228, (.bipush 22, 2)), (230, (.iload_n 2, 1)), (231, (.imul, 1)), (232, (.iload 4, 2)), (234, (.iadd, 1)), (235, (.iload 5, 2)), (237, (.iastore, 1)), (238, (.iinc 4 1, 3)), (241, (.goto (-67), 3)), (244, (.aload_n 0, 1)), (245, (.getfield 102, 3)), (248, (.bipush 22, 2))] = true := by decide +kernel
theorem dX9_decomposes_211 : decode cX9_decomposes 211 = .ok (.aload_n 0, 1) := zdcg 0 zdT_dX9_decomposes_211 rfl
theorem dX9_decomposes_212 : decode cX9_decomposes 212 = .ok (.getfield 102, 3) := zdcg 1 zdT_dX9_decomposes_211 rfl
theorem dX9_decomposes_215 : decode cX9_decomposes 215 = .ok (.bipush 22, 2) := zdcg 2 zdT_dX9_decomposes_211 rfl
theorem dX9_decomposes_217 : decode cX9_decomposes 217 = .ok (.iload_n 2, 1) := zdcg 3 zdT_dX9_decomposes_211 rfl
theorem dX9_decomposes_218 : decode cX9_decomposes 218 = .ok (.imul, 1) := zdcg 4 zdT_dX9_decomposes_211 rfl
theorem dX9_decomposes_219 : decode cX9_decomposes 219 = .ok (.iload 4, 2) := zdcg 5 zdT_dX9_decomposes_211 rfl
theorem dX9_decomposes_221 : decode cX9_decomposes 221 = .ok (.iadd, 1) := zdcg 6 zdT_dX9_decomposes_211 rfl
theorem dX9_decomposes_222 : decode cX9_decomposes 222 = .ok (.iaload, 1) := zdcg 7 zdT_dX9_decomposes_211 rfl
theorem dX9_decomposes_223 : decode cX9_decomposes 223 = .ok (.iastore, 1) := zdcg 8 zdT_dX9_decomposes_211 rfl
theorem dX9_decomposes_224 : decode cX9_decomposes 224 = .ok (.aload_n 0, 1) := zdcg 9 zdT_dX9_decomposes_211 rfl
theorem dX9_decomposes_225 : decode cX9_decomposes 225 = .ok (.getfield 102, 3) := zdcg 10 zdT_dX9_decomposes_211 rfl
theorem dX9_decomposes_228 : decode cX9_decomposes 228 = .ok (.bipush 22, 2) := zdcg 11 zdT_dX9_decomposes_211 rfl
theorem dX9_decomposes_230 : decode cX9_decomposes 230 = .ok (.iload_n 2, 1) := zdcg 12 zdT_dX9_decomposes_211 rfl
theorem dX9_decomposes_231 : decode cX9_decomposes 231 = .ok (.imul, 1) := zdcg 13 zdT_dX9_decomposes_211 rfl
theorem dX9_decomposes_232 : decode cX9_decomposes 232 = .ok (.iload 4, 2) := zdcg 14 zdT_dX9_decomposes_211 rfl
theorem dX9_decomposes_234 : decode cX9_decomposes 234 = .ok (.iadd, 1) := zdcg 15 zdT_dX9_decomposes_211 rfl
theorem dX9_decomposes_235 : decode cX9_decomposes 235 = .ok (.iload 5, 2) := zdcg 16 zdT_dX9_decomposes_211 rfl
theorem dX9_decomposes_237 : decode cX9_decomposes 237 = .ok (.iastore, 1) := zdcg 17 zdT_dX9_decomposes_211 rfl
theorem dX9_decomposes_238 : decode cX9_decomposes 238 = .ok (.iinc 4 1, 3) := zdcg 18 zdT_dX9_decomposes_211 rfl
theorem dX9_decomposes_241 : decode cX9_decomposes 241 = .ok (.goto (-67), 3) := zdcg 19 zdT_dX9_decomposes_211 rfl
theorem dX9_decomposes_244 : decode cX9_decomposes 244 = .ok (.aload_n 0, 1) := zdcg 20 zdT_dX9_decomposes_211 rfl
theorem dX9_decomposes_245 : decode cX9_decomposes 245 = .ok (.getfield 102, 3) := zdcg 21 zdT_dX9_decomposes_211 rfl
theorem dX9_decomposes_248 : decode cX9_decomposes 248 = .ok (.bipush 22, 2) := zdcg 22 zdT_dX9_decomposes_211 rfl
end
section
/-! instructions, by program -/
theorem zdT_dX9_decomposes_250 : zdch cX9_decomposes [(250, (.iload_n 2, 1)), (251, (.imul, 1)), (252, (.iload_n 2, 1)), (253, (.iadd, 1)), (254, (.iaload, 1)), (255, (.sipush 32001, 3)), (258, (.sipush 32003, 3)), (261, (.invokestatic 238, 3)), (264, (.istore 4, 2)), (266, (.iconst 0, 1)), (267, (.istore 5, 2)), (269, (.iload 5, 2)), (271, (.bipush 22, 2)), (273, (.if_icmp .ge 43, 3)), (276, (.aload_n 0, 1)), (277, (.getfield 102, 3)), (280, (.bipush 22, 2)), (282, (.iload_n 2, 1)), (283, (.imul, 1)), (284, (.iload 5, 2)), (286, (.iadd, 1)), (287, (.aload_n 0, 1)), (288, (.getfield 102, 3)), (291, (.bipush 22, 2)), (293, (.iload_n 2, 1))] = true := by decide +kernel
theorem dX9_decomposes_250 : decode cX9_decomposes 250 = .ok (.iload_n 2, 1) := zdcg 0 zdT_dX9_decomposes_250 rfl
theorem dX9_decomposes_251 : decode cX9_decomposes 251 = .ok (.imul, 1) := zdcg 1 zdT_dX9_decomposes_250 rfl
theorem dX9_decomposes_252 : decode cX9_decomposes 252 = .ok (.iload_n 2, 1) := zdcg 2 zdT_dX9_decomposes_250 rfl
theorem dX9_decomposes_253 : decode cX9_decomposes 253 = .ok (.iadd, 1) := zdcg 3 zdT_dX9_decomposes_250 rfl
theorem dX9_decomposes_254 : decode cX9_decomposes 254 = .ok (.iaload, 1) := zdcg 4 zdT_dX9_decomposes_250 rfl
theorem dX9_decomposes_255 : decode cX9_decomposes 255 = .ok (.sipush 32001, 3) := zdcg 5 zdT_dX9_decomposes_250 rfl
theorem dX9_decomposes_258 : decode cX9_decomposes 258 = .ok (.sipush 32003, 3) := zdcg 6 zdT_dX9_decomposes_250 rfl
theorem dX9_decomposes_261 : decode cX9_decomposes 261 = .ok (.invokestatic 238, 3) := zdcg 7 zdT_dX9_decomposes_250 rfl
theorem dX9_decomposes_264 : decode cX9_decomposes 264 = .ok (.istore 4, 2) := zdcg 8 zdT_dX9_decomposes_250 rfl
theorem dX9_decomposes_266 : decode cX9_decomposes 266 = .ok (.iconst 0, 1) := zdcg 9 zdT_dX9_decomposes_250 rfl
theorem dX9_decomposes_267 : decode cX9_decomposes 267 = .ok (.istore 5, 2) := zdcg 10 zdT_dX9_decomposes_250 rfl
theorem dX9_decomposes_269 : decode cX9_decomposes 269 = .ok (.iload 5, 2) := zdcg 11 zdT_dX9_decomposes_250 rfl
theorem dX9_decomposes_271 : decode cX9_decomposes 271 = .ok (.bipush 22, 2) := zdcg 12 zdT_dX9_decomposes_250 rfl
theorem dX9_decomposes_273 : decode cX9_decomposes 273 = .ok (.if_icmp .ge 43, 3) := zdcg 13 zdT_dX9_decomposes_250 rfl
theorem dX9_decomposes_276 : decode cX9_decomposes 276 = .ok (.aload_n 0, 1) := zdcg 14 zdT_dX9_decomposes_250 rfl
theorem dX9_decomposes_277 : decode cX9_decomposes 277 = .ok (.getfield 102, 3) := zdcg 15 zdT_dX9_decomposes_250 rfl
theorem dX9_decomposes_280 : decode cX9_decomposes 280 = .ok (.bipush 22, 2) := zdcg 16 zdT_dX9_decomposes_250 rfl
theorem dX9_decomposes_282 : decode cX9_decomposes 282 = .ok (.iload_n 2, 1) := zdcg 17 zdT_dX9_decomposes_250 rfl
theorem dX9_decomposes_283 : decode cX9_decomposes 283 = .ok (.imul, 1) := zdcg 18 zdT_dX9_decomposes_250 rfl
theorem dX9_decomposes_284 : decode cX9_decomposes 284 = .ok (.iload 5, 2) := zdcg 19 zdT_dX9_decomposes_250 rfl
theorem dX9_decomposes_286 : decode cX9_decomposes 286 = .ok (.iadd, 1) := zdcg 20 zdT_dX9_decomposes_250 rfl
theorem dX9_decomposes_287 : decode cX9_decomposes 287 = .ok (.aload_n 0, 1) := zdcg 21 zdT_dX9_decomposes_250 rfl
theorem dX9_decomposes_288 : decode cX9_decomposes 288 = .ok (.getfield 102, 3) := zdcg 22 zdT_dX9_decomposes_250 rfl
theorem dX9_decomposes_291 : decode cX9_decomposes 291 = .ok (.bipush 22, 2) := zdcg 23 zdT_dX9_decomposes_250 rfl
theorem dX9_decomposes_293 : decode cX9_decomposes 293 = .ok (.iload_n 2, 1) := zdcg 24 zdT_dX9_decomposes_250 rfl
theorem zdT_dX9_decomposes_294 : zdch cX9_decomposes [(294, (.imul, 1)), (295, (.iload 5, 2)), (297, (.iadd, 1)), (298, (.iaload, 1)), (299, (.i2l, 1)), (300, (.iload 4, 2)), (302, (.i2l, 1)), (303, (.lmul, 1)), (304, (.ldc2_w 264, 3)), (307, (.lrem, 1)), (308, (.l2i, 1)), (309, (.iastore, 1)), (310, (.iinc 5 1, 3)), (313, (.goto (-44), 3)), (316, (.iconst 0, 1)), (317, (.istore 5, 2)), (319, (.iload 5, 2)), (321, (.iload_n 1, 1)), (322, (.if_icmp .ge 107, 3)), (325, (.aload_n 0, 1)), (326, (.getfield 102, 3)), (329, (.bipush 22, 2)), (331, (.iload 5, 2)), (333, (.imul, 1)), (334, (.iload_n 2, 1))] = true := by decide +kernel
theorem dX9_decomposes_294 : decode cX9_decomposes 294 = .ok (.imul, 1) := zdcg 0 zdT_dX9_decomposes_294 rfl
theorem dX9_decomposes_295 : decode cX9_decomposes 295 = .ok (.iload 5, 2) := zdcg 1 zdT_dX9_decomposes_294 rfl
theorem dX9_decomposes_297 : decode cX9_decomposes 297 = .ok (.iadd, 1) := zdcg 2 zdT_dX9_decomposes_294 rfl
theorem dX9_decomposes_298 : decode cX9_decomposes 298 = .ok (.iaload, 1) := zdcg 3 zdT_dX9_decomposes_294 rfl
theorem dX9_decomposes_299 : decode cX9_decomposes 299 = .ok (.i2l, 1) := zdcg 4 zdT_dX9_decomposes_294 rfl
theorem dX9_decomposes_300 : decode cX9_decomposes 300 = .ok (.iload 4, 2) := zdcg 5 zdT_dX9_decomposes_294 rfl
theorem dX9_decomposes_302 : decode cX9_decomposes 302 = .ok (.i2l, 1) := zdcg 6 zdT_dX9_decomposes_294 rfl
theorem dX9_decomposes_303 : decode cX9_decomposes 303 = .ok (.lmul, 1) := zdcg 7 zdT_dX9_decomposes_294 rfl
theorem dX9_decomposes_304 : decode cX9_decomposes 304 = .ok (.ldc2_w 264, 3) := zdcg 8 zdT_dX9_decomposes_294 rfl
theorem dX9_decomposes_307 : decode cX9_decomposes 307 = .ok (.lrem, 1) := zdcg 9 zdT_dX9_decomposes_294 rfl
theorem dX9_decomposes_308 : decode cX9_decomposes 308 = .ok (.l2i, 1) := zdcg 10 zdT_dX9_decomposes_294 rfl
theorem dX9_decomposes_309 : decode cX9_decomposes 309 = .ok (.iastore, 1) := zdcg 11 zdT_dX9_decomposes_294 rfl
theorem dX9_decomposes_310 : decode cX9_decomposes 310 = .ok (.iinc 5 1, 3) := zdcg 12 zdT_dX9_decomposes_294 rfl
theorem dX9_decomposes_313 : decode cX9_decomposes 313 = .ok (.goto (-44), 3) := zdcg 13 zdT_dX9_decomposes_294 rfl
theorem dX9_decomposes_316 : decode cX9_decomposes 316 = .ok (.iconst 0, 1) := zdcg 14 zdT_dX9_decomposes_294 rfl
theorem dX9_decomposes_317 : decode cX9_decomposes 317 = .ok (.istore 5, 2) := zdcg 15 zdT_dX9_decomposes_294 rfl
theorem dX9_decomposes_319 : decode cX9_decomposes 319 = .ok (.iload 5, 2) := zdcg 16 zdT_dX9_decomposes_294 rfl
theorem dX9_decomposes_321 : decode cX9_decomposes 321 = .ok (.iload_n 1, 1) := zdcg 17 zdT_dX9_decomposes_294 rfl
theorem dX9_decomposes_322 : decode cX9_decomposes 322 = .ok (.if_icmp .ge 107, 3) := zdcg 18 zdT_dX9_decomposes_294 rfl
theorem dX9_decomposes_325 : decode cX9_decomposes 325 = .ok (.aload_n 0, 1) := zdcg 19 zdT_dX9_decomposes_294 rfl
theorem dX9_decomposes_326 : decode cX9_decomposes 326 = .ok (.getfield 102, 3) := zdcg 20 zdT_dX9_decomposes_294 rfl
theorem dX9_decomposes_329 : decode cX9_decomposes 329 = .ok (.bipush 22, 2) := zdcg 21 zdT_dX9_decomposes_294 rfl
theorem dX9_decomposes_331 : decode cX9_decomposes 331 = .ok (.iload 5, 2) := zdcg 22 zdT_dX9_decomposes_294 rfl
theorem dX9_decomposes_333 : decode cX9_decomposes 333 = .ok (.imul, 1) := zdcg 23 zdT_dX9_decomposes_294 rfl
theorem dX9_decomposes_334 : decode cX9_decomposes 334 = .ok (.iload_n 2, 1) := zdcg 24 zdT_dX9_decomposes_294 rfl
theorem zdT_dX9_decomposes_335 : zdch cX9_decomposes [(335, (.iadd, 1)), (336, (.iaload, 1)), (337, (.istore 6, 2)), (339, (.iload 5, 2)), (341, (.iload_n 2, 1)), (342, (.if_icmp .eq 81, 3)), (345, (.iload 6, 2)), (347, (.ifCond .ne 6, 3)), (350, (.goto 73, 3)), (353, (.iconst 0, 1)), (354, (.istore 7, 2)), (356, (.iload 7, 2)), (358, (.bipush 22, 2)), (360, (.if_icmp .ge 63, 3)), (363, (.aload_n 0, 1)), (364, (.getfield 102, 3)), (367, (.bipush 22, 2)), (369, (.iload 5, 2)), (371, (.imul, 1)), (372, (.iload 7, 2)), (374, (.iadd, 1)), (375, (.aload_n 0, 1)), (376, (.getfield 102, 3)), (379, (.bipush 22, 2)), (381, (.iload 5, 2))] = true := by decide +kernel
theorem dX9_decomposes_335 : decode cX9_decomposes 335 = .ok (.iadd, 1) := zdcg 0 zdT_dX9_decomposes_335 rfl
theorem dX9_decomposes_336 : decode cX9_decomposes 336 = .ok (.iaload, 1) := zdcg 1 zdT_dX9_decomposes_335 rfl
theorem dX9_decomposes_337 : decode cX9_decomposes 337 = .ok (.istore 6, 2) := zdcg 2 zdT_dX9_decomposes_335 rfl
theorem dX9_decomposes_339 : decode cX9_decomposes 339 = .ok (.iload 5, 2) := zdcg 3 zdT_dX9_decomposes_335 rfl
theorem dX9_decomposes_341 : decode cX9_decomposes 341 = .ok (.iload_n 2, 1) := zdcg 4 zdT_dX9_decomposes_335 rfl
theorem dX9_decomposes_342 : decode cX9_decomposes 342 = .ok (.if_icmp .eq 81, 3) := zdcg 5 zdT_dX9_decomposes_335 rfl
theorem dX9_decomposes_345 : decode cX9_decomposes 345 = .ok (.iload 6, 2) := zdcg 6 zdT_dX9_decomposes_335 rfl
theorem dX9_decomposes_347 : decode cX9_decomposes 347 = .ok (.ifCond .ne 6, 3) := zdcg 7 zdT_dX9_decomposes_335 rfl
theorem dX9_decomposes_350 : decode cX9_decomposes 350 = .ok (.goto 73, 3) := zdcg 8 zdT_dX9_decomposes_335 rfl
theorem dX9_decomposes_353 : decode cX9_decomposes 353 = .ok (.iconst 0, 1) := zdcg 9 zdT_dX9_decomposes_335 rfl
theorem dX9_decomposes_354 : decode cX9_decomposes 354 = .ok (.istore 7, 2) := zdcg 10 zdT_dX9_decomposes_335 rfl
theorem dX9_decomposes_356 : decode cX9_decomposes 356 = .ok (.iload 7, 2) := zdcg 11 zdT_dX9_decomposes_335 rfl
theorem dX9_decomposes_358 : decode cX9_decomposes 358 = .ok (.bipush 22, 2) := zdcg 12 zdT_dX9_decomposes_335 rfl
theorem dX9_decomposes_360 : decode cX9_decomposes 360 = .ok (.if_icmp .ge 63, 3) := zdcg 13 zdT_dX9_decomposes_335 rfl
theorem dX9_decomposes_363 : decode cX9_decomposes 363 = .ok (.aload_n 0, 1) := zdcg 14 zdT_dX9_decomposes_335 rfl
theorem dX9_decomposes_364 : decode cX9_decomposes 364 = .ok (.getfield 102, 3) := zdcg 15 zdT_dX9_decomposes_335 rfl
theorem dX9_decomposes_367 : decode cX9_decomposes 367 = .ok (.bipush 22, 2) := zdcg 16 zdT_dX9_decomposes_335 rfl
theorem dX9_decomposes_369 : decode cX9_decomposes 369 = .ok (.iload 5, 2) := zdcg 17 zdT_dX9_decomposes_335 rfl
theorem dX9_decomposes_371 : decode cX9_decomposes 371 = .ok (.imul, 1) := zdcg 18 zdT_dX9_decomposes_335 rfl
theorem dX9_decomposes_372 : decode cX9_decomposes 372 = .ok (.iload 7, 2) := zdcg 19 zdT_dX9_decomposes_335 rfl
theorem dX9_decomposes_374 : decode cX9_decomposes 374 = .ok (.iadd, 1) := zdcg 20 zdT_dX9_decomposes_335 rfl
theorem dX9_decomposes_375 : decode cX9_decomposes 375 = .ok (.aload_n 0, 1) := zdcg 21 zdT_dX9_decomposes_335 rfl
theorem dX9_decomposes_376 : decode cX9_decomposes 376 = .ok (.getfield 102, 3) := zdcg 22 zdT_dX9_decomposes_335 rfl
theorem dX9_decomposes_379 : decode cX9_decomposes 379 = .ok (.bipush 22, 2) := zdcg 23 zdT_dX9_decomposes_335 rfl
theorem dX9_decomposes_381 : decode cX9_decomposes 381 = .ok (.iload 5, 2) := zdcg 24 zdT_dX9_decomposes_335 rfl
theorem zdT_dX9_decomposes_383 : zdch cX9_decomposes [(383, (.imul, 1)), (384, (.iload 7, 2)), (386, (.iadd, 1)), (387, (.iaload, 1)), (388, (.i2l, 1)), (389, (.sipush 32003, 3)), (392, (.iload 6, 2)), (394, (.isub, 1)), (395, (.i2l, 1)), (396, (.aload_n 0, 1)), (397, (.getfield 102, 3)), (400, (.bipush 22, 2)), (402, (.iload_n 2, 1)), (403, (.imul, 1)), (404, (.iload 7, 2)), (406, (.iadd, 1)), (407, (.iaload, 1)), (408, (.i2l, 1)), (409, (.lmul, 1)), (410, (.ladd, 1)), (411, (.ldc2_w 264, 3)), (414, (.lrem, 1)), (415, (.l2i, 1)), (416, (.iastore, 1)), (417, (.iinc 7 1, 3))] = true := by decide +kernel
theorem dX9_decomposes_383 : decode cX9_decomposes 383 = .ok (.imul, 1) := zdcg 0 zdT_dX9_decomposes_383 rfl
theorem dX9_decomposes_384 : decode cX9_decomposes 384 = .ok (.iload 7, 2) := zdcg 1 zdT_dX9_decomposes_383 rfl
theorem dX9_decomposes_386 : decode cX9_decomposes 386 = .ok (.iadd, 1) := zdcg 2 zdT_dX9_decomposes_383 rfl
theorem dX9_decomposes_387 : decode cX9_decomposes 387 = .ok (.iaload, 1) := zdcg 3 zdT_dX9_decomposes_383 rfl
theorem dX9_decomposes_388 : decode cX9_decomposes 388 = .ok (.i2l, 1) := zdcg 4 zdT_dX9_decomposes_383 rfl
theorem dX9_decomposes_389 : decode cX9_decomposes 389 = .ok (.sipush 32003, 3) := zdcg 5 zdT_dX9_decomposes_383 rfl
theorem dX9_decomposes_392 : decode cX9_decomposes 392 = .ok (.iload 6, 2) := zdcg 6 zdT_dX9_decomposes_383 rfl
theorem dX9_decomposes_394 : decode cX9_decomposes 394 = .ok (.isub, 1) := zdcg 7 zdT_dX9_decomposes_383 rfl
theorem dX9_decomposes_395 : decode cX9_decomposes 395 = .ok (.i2l, 1) := zdcg 8 zdT_dX9_decomposes_383 rfl
theorem dX9_decomposes_396 : decode cX9_decomposes 396 = .ok (.aload_n 0, 1) := zdcg 9 zdT_dX9_decomposes_383 rfl
theorem dX9_decomposes_397 : decode cX9_decomposes 397 = .ok (.getfield 102, 3) := zdcg 10 zdT_dX9_decomposes_383 rfl
theorem dX9_decomposes_400 : decode cX9_decomposes 400 = .ok (.bipush 22, 2) := zdcg 11 zdT_dX9_decomposes_383 rfl
theorem dX9_decomposes_402 : decode cX9_decomposes 402 = .ok (.iload_n 2, 1) := zdcg 12 zdT_dX9_decomposes_383 rfl
theorem dX9_decomposes_403 : decode cX9_decomposes 403 = .ok (.imul, 1) := zdcg 13 zdT_dX9_decomposes_383 rfl
theorem dX9_decomposes_404 : decode cX9_decomposes 404 = .ok (.iload 7, 2) := zdcg 14 zdT_dX9_decomposes_383 rfl
theorem dX9_decomposes_406 : decode cX9_decomposes 406 = .ok (.iadd, 1) := zdcg 15 zdT_dX9_decomposes_383 rfl
theorem dX9_decomposes_407 : decode cX9_decomposes 407 = .ok (.iaload, 1) := zdcg 16 zdT_dX9_decomposes_383 rfl
theorem dX9_decomposes_408 : decode cX9_decomposes 408 = .ok (.i2l, 1) := zdcg 17 zdT_dX9_decomposes_383 rfl
theorem dX9_decomposes_409 : decode cX9_decomposes 409 = .ok (.lmul, 1) := zdcg 18 zdT_dX9_decomposes_383 rfl
theorem dX9_decomposes_410 : decode cX9_decomposes 410 = .ok (.ladd, 1) := zdcg 19 zdT_dX9_decomposes_383 rfl
theorem dX9_decomposes_411 : decode cX9_decomposes 411 = .ok (.ldc2_w 264, 3) := zdcg 20 zdT_dX9_decomposes_383 rfl
theorem dX9_decomposes_414 : decode cX9_decomposes 414 = .ok (.lrem, 1) := zdcg 21 zdT_dX9_decomposes_383 rfl
theorem dX9_decomposes_415 : decode cX9_decomposes 415 = .ok (.l2i, 1) := zdcg 22 zdT_dX9_decomposes_383 rfl
theorem dX9_decomposes_416 : decode cX9_decomposes 416 = .ok (.iastore, 1) := zdcg 23 zdT_dX9_decomposes_383 rfl
theorem dX9_decomposes_417 : decode cX9_decomposes 417 = .ok (.iinc 7 1, 3) := zdcg 24 zdT_dX9_decomposes_383 rfl
theorem zdT_dX9_decomposes_420 : zdch cX9_decomposes [(420, (.goto (-64), 3)), (423, (.iinc 5 1, 3)), (426, (.goto (-107), 3)), (429, (.iinc 2 1, 3)), (432, (.goto (-296), 3)), (435, (.iconst 0, 1)), (436, (.istore_n 2, 1)), (437, (.iload_n 2, 1)), (438, (.aload_n 0, 1)), (439, (.getfield 153, 3)), (442, (.if_icmp .ge 71, 3)), (445, (.iconst 0, 1)), (446, (.istore_n 3, 1)), (447, (.iload_n 3, 1)), (448, (.aload_n 0, 1)), (449, (.getfield 172, 3)), (452, (.if_icmp .ge 55, 3)), (455, (.aload_n 0, 1)), (456, (.getfield 102, 3)), (459, (.bipush 22, 2)), (461, (.iload_n 3, 1)), (462, (.imul, 1)), (463, (.bipush 11, 2)), (465, (.iadd, 1)), (466, (.iload_n 2, 1))] = true := by decide +kernel
theorem dX9_decomposes_420 : decode cX9_decomposes 420 = .ok (.goto (-64), 3) := zdcg 0 zdT_dX9_decomposes_420 rfl
theorem dX9_decomposes_423 : decode cX9_decomposes 423 = .ok (.iinc 5 1, 3) := zdcg 1 zdT_dX9_decomposes_420 rfl
theorem dX9_decomposes_426 : decode cX9_decomposes 426 = .ok (.goto (-107), 3) := zdcg 2 zdT_dX9_decomposes_420 rfl
theorem dX9_decomposes_429 : decode cX9_decomposes 429 = .ok (.iinc 2 1, 3) := zdcg 3 zdT_dX9_decomposes_420 rfl
theorem dX9_decomposes_432 : decode cX9_decomposes 432 = .ok (.goto (-296), 3) := zdcg 4 zdT_dX9_decomposes_420 rfl
theorem dX9_decomposes_435 : decode cX9_decomposes 435 = .ok (.iconst 0, 1) := zdcg 5 zdT_dX9_decomposes_420 rfl
theorem dX9_decomposes_436 : decode cX9_decomposes 436 = .ok (.istore_n 2, 1) := zdcg 6 zdT_dX9_decomposes_420 rfl
theorem dX9_decomposes_437 : decode cX9_decomposes 437 = .ok (.iload_n 2, 1) := zdcg 7 zdT_dX9_decomposes_420 rfl
theorem dX9_decomposes_438 : decode cX9_decomposes 438 = .ok (.aload_n 0, 1) := zdcg 8 zdT_dX9_decomposes_420 rfl
theorem dX9_decomposes_439 : decode cX9_decomposes 439 = .ok (.getfield 153, 3) := zdcg 9 zdT_dX9_decomposes_420 rfl
theorem dX9_decomposes_442 : decode cX9_decomposes 442 = .ok (.if_icmp .ge 71, 3) := zdcg 10 zdT_dX9_decomposes_420 rfl
theorem dX9_decomposes_445 : decode cX9_decomposes 445 = .ok (.iconst 0, 1) := zdcg 11 zdT_dX9_decomposes_420 rfl
theorem dX9_decomposes_446 : decode cX9_decomposes 446 = .ok (.istore_n 3, 1) := zdcg 12 zdT_dX9_decomposes_420 rfl
theorem dX9_decomposes_447 : decode cX9_decomposes 447 = .ok (.iload_n 3, 1) := zdcg 13 zdT_dX9_decomposes_420 rfl
theorem dX9_decomposes_448 : decode cX9_decomposes 448 = .ok (.aload_n 0, 1) := zdcg 14 zdT_dX9_decomposes_420 rfl
theorem dX9_decomposes_449 : decode cX9_decomposes 449 = .ok (.getfield 172, 3) := zdcg 15 zdT_dX9_decomposes_420 rfl
theorem dX9_decomposes_452 : decode cX9_decomposes 452 = .ok (.if_icmp .ge 55, 3) := zdcg 16 zdT_dX9_decomposes_420 rfl
theorem dX9_decomposes_455 : decode cX9_decomposes 455 = .ok (.aload_n 0, 1) := zdcg 17 zdT_dX9_decomposes_420 rfl
theorem dX9_decomposes_456 : decode cX9_decomposes 456 = .ok (.getfield 102, 3) := zdcg 18 zdT_dX9_decomposes_420 rfl
theorem dX9_decomposes_459 : decode cX9_decomposes 459 = .ok (.bipush 22, 2) := zdcg 19 zdT_dX9_decomposes_420 rfl
theorem dX9_decomposes_461 : decode cX9_decomposes 461 = .ok (.iload_n 3, 1) := zdcg 20 zdT_dX9_decomposes_420 rfl
theorem dX9_decomposes_462 : decode cX9_decomposes 462 = .ok (.imul, 1) := zdcg 21 zdT_dX9_decomposes_420 rfl
theorem dX9_decomposes_463 : decode cX9_decomposes 463 = .ok (.bipush 11, 2) := zdcg 22 zdT_dX9_decomposes_420 rfl
theorem dX9_decomposes_465 : decode cX9_decomposes 465 = .ok (.iadd, 1) := zdcg 23 zdT_dX9_decomposes_420 rfl
theorem dX9_decomposes_466 : decode cX9_decomposes 466 = .ok (.iload_n 2, 1) := zdcg 24 zdT_dX9_decomposes_420 rfl
theorem zdT_dX9_decomposes_467 : zdch cX9_decomposes [(467, (.iadd, 1)), (468, (.iaload, 1)), (469, (.istore 4, 2)), (471, (.aload_n 0, 1)), (472, (.getfield 99, 3)), (475, (.bipush 11, 2)), (477, (.iload_n 2, 1)), (478, (.imul, 1)), (479, (.iload_n 3, 1)), (480, (.iadd, 1)), (481, (.iload 4, 2)), (483, (.sipush 16001, 3)), (486, (.if_icmp .le 12, 3)), (489, (.iload 4, 2)), (491, (.sipush 32003, 3)), (494, (.isub, 1)), (495, (.goto 5, 3)), (498, (.iload 4, 2)), (500, (.iastore, 1)), (501, (.iinc 3 1, 3)), (504, (.goto (-57), 3)), (507, (.iinc 2 1, 3)), (510, (.goto (-73), 3)), (513, (.return_, 1))] = true := by decide +kernel
theorem dX9_decomposes_467 : decode cX9_decomposes 467 = .ok (.iadd, 1) := zdcg 0 zdT_dX9_decomposes_467 rfl
theorem dX9_decomposes_468 : decode cX9_decomposes 468 = .ok (.iaload, 1) := zdcg 1 zdT_dX9_decomposes_467 rfl
theorem dX9_decomposes_469 : decode cX9_decomposes 469 = .ok (.istore 4, 2) := zdcg 2 zdT_dX9_decomposes_467 rfl
theorem dX9_decomposes_471 : decode cX9_decomposes 471 = .ok (.aload_n 0, 1) := zdcg 3 zdT_dX9_decomposes_467 rfl
theorem dX9_decomposes_472 : decode cX9_decomposes 472 = .ok (.getfield 99, 3) := zdcg 4 zdT_dX9_decomposes_467 rfl
theorem dX9_decomposes_475 : decode cX9_decomposes 475 = .ok (.bipush 11, 2) := zdcg 5 zdT_dX9_decomposes_467 rfl
theorem dX9_decomposes_477 : decode cX9_decomposes 477 = .ok (.iload_n 2, 1) := zdcg 6 zdT_dX9_decomposes_467 rfl
theorem dX9_decomposes_478 : decode cX9_decomposes 478 = .ok (.imul, 1) := zdcg 7 zdT_dX9_decomposes_467 rfl
theorem dX9_decomposes_479 : decode cX9_decomposes 479 = .ok (.iload_n 3, 1) := zdcg 8 zdT_dX9_decomposes_467 rfl
theorem dX9_decomposes_480 : decode cX9_decomposes 480 = .ok (.iadd, 1) := zdcg 9 zdT_dX9_decomposes_467 rfl
theorem dX9_decomposes_481 : decode cX9_decomposes 481 = .ok (.iload 4, 2) := zdcg 10 zdT_dX9_decomposes_467 rfl
theorem dX9_decomposes_483 : decode cX9_decomposes 483 = .ok (.sipush 16001, 3) := zdcg 11 zdT_dX9_decomposes_467 rfl
theorem dX9_decomposes_486 : decode cX9_decomposes 486 = .ok (.if_icmp .le 12, 3) := zdcg 12 zdT_dX9_decomposes_467 rfl
theorem dX9_decomposes_489 : decode cX9_decomposes 489 = .ok (.iload 4, 2) := zdcg 13 zdT_dX9_decomposes_467 rfl
theorem dX9_decomposes_491 : decode cX9_decomposes 491 = .ok (.sipush 32003, 3) := zdcg 14 zdT_dX9_decomposes_467 rfl
theorem dX9_decomposes_494 : decode cX9_decomposes 494 = .ok (.isub, 1) := zdcg 15 zdT_dX9_decomposes_467 rfl
theorem dX9_decomposes_495 : decode cX9_decomposes 495 = .ok (.goto 5, 3) := zdcg 16 zdT_dX9_decomposes_467 rfl
theorem dX9_decomposes_498 : decode cX9_decomposes 498 = .ok (.iload 4, 2) := zdcg 17 zdT_dX9_decomposes_467 rfl
theorem dX9_decomposes_500 : decode cX9_decomposes 500 = .ok (.iastore, 1) := zdcg 18 zdT_dX9_decomposes_467 rfl
theorem dX9_decomposes_501 : decode cX9_decomposes 501 = .ok (.iinc 3 1, 3) := zdcg 19 zdT_dX9_decomposes_467 rfl
theorem dX9_decomposes_504 : decode cX9_decomposes 504 = .ok (.goto (-57), 3) := zdcg 20 zdT_dX9_decomposes_467 rfl
theorem dX9_decomposes_507 : decode cX9_decomposes 507 = .ok (.iinc 2 1, 3) := zdcg 21 zdT_dX9_decomposes_467 rfl
theorem dX9_decomposes_510 : decode cX9_decomposes 510 = .ok (.goto (-73), 3) := zdcg 22 zdT_dX9_decomposes_467 rfl
theorem dX9_decomposes_513 : decode cX9_decomposes 513 = .ok (.return_, 1) := zdcg 23 zdT_dX9_decomposes_467 rfl
theorem zdT_dX9_lays_0 : zdch cX9_lays [(0, (.aload_n 0, 1)), (1, (.iload_n 1, 1)), (2, (.putfield 169, 3)), (5, (.aload_n 0, 1)), (6, (.iload_n 2, 1)), (7, (.putfield 184, 3)), (10, (.aload_n 0, 1)), (11, (.iconst 0, 1)), (12, (.putfield 153, 3)), (15, (.aload_n 0, 1)), (16, (.iconst 0, 1)), (17, (.aload_n 0, 1)), (18, (.getfield 169, 3)), (21, (.aload_n 0, 1)), (22, (.getfield 169, 3)), (25, (.invokevirtual 162, 3)), (28, (.aload_n 0, 1)), (29, (.invokevirtual 266, 3)), (32, (.aload_n 0, 1)), (33, (.invokevirtual 269, 3)), (36, (.aload_n 0, 1)), (37, (.iconst 0, 1)), (38, (.putfield 208, 3)), (41, (.iconst 0, 1)), (42, (.istore_n 3, 1))] = true := by decide +kernel
theorem dX9_lays_0 : decode cX9_lays 0 = .ok (.aload_n 0, 1) := zdcg 0 zdT_dX9_lays_0 rfl
theorem dX9_lays_1 : decode cX9_lays 1 = .ok (.iload_n 1, 1) := zdcg 1 zdT_dX9_lays_0 rfl
theorem dX9_lays_2 : decode cX9_lays 2 = .ok (.putfield 169, 3) := zdcg 2 zdT_dX9_lays_0 rfl
theorem dX9_lays_5 : decode cX9_lays 5 = .ok (.aload_n 0, 1) := zdcg 3 zdT_dX9_lays_0 rfl
theorem dX9_lays_6 : decode cX9_lays 6 = .ok (.iload_n 2, 1) := zdcg 4 zdT_dX9_lays_0 rfl
theorem dX9_lays_7 : decode cX9_lays 7 = .ok (.putfield 184, 3) := zdcg 5 zdT_dX9_lays_0 rfl
theorem dX9_lays_10 : decode cX9_lays 10 = .ok (.aload_n 0, 1) := zdcg 6 zdT_dX9_lays_0 rfl
theorem dX9_lays_11 : decode cX9_lays 11 = .ok (.iconst 0, 1) := zdcg 7 zdT_dX9_lays_0 rfl
theorem dX9_lays_12 : decode cX9_lays 12 = .ok (.putfield 153, 3) := zdcg 8 zdT_dX9_lays_0 rfl
theorem dX9_lays_15 : decode cX9_lays 15 = .ok (.aload_n 0, 1) := zdcg 9 zdT_dX9_lays_0 rfl
theorem dX9_lays_16 : decode cX9_lays 16 = .ok (.iconst 0, 1) := zdcg 10 zdT_dX9_lays_0 rfl
theorem dX9_lays_17 : decode cX9_lays 17 = .ok (.aload_n 0, 1) := zdcg 11 zdT_dX9_lays_0 rfl
theorem dX9_lays_18 : decode cX9_lays 18 = .ok (.getfield 169, 3) := zdcg 12 zdT_dX9_lays_0 rfl
theorem dX9_lays_21 : decode cX9_lays 21 = .ok (.aload_n 0, 1) := zdcg 13 zdT_dX9_lays_0 rfl
theorem dX9_lays_22 : decode cX9_lays 22 = .ok (.getfield 169, 3) := zdcg 14 zdT_dX9_lays_0 rfl
theorem dX9_lays_25 : decode cX9_lays 25 = .ok (.invokevirtual 162, 3) := zdcg 15 zdT_dX9_lays_0 rfl
theorem dX9_lays_28 : decode cX9_lays 28 = .ok (.aload_n 0, 1) := zdcg 16 zdT_dX9_lays_0 rfl
theorem dX9_lays_29 : decode cX9_lays 29 = .ok (.invokevirtual 266, 3) := zdcg 17 zdT_dX9_lays_0 rfl
theorem dX9_lays_32 : decode cX9_lays 32 = .ok (.aload_n 0, 1) := zdcg 18 zdT_dX9_lays_0 rfl
theorem dX9_lays_33 : decode cX9_lays 33 = .ok (.invokevirtual 269, 3) := zdcg 19 zdT_dX9_lays_0 rfl
theorem dX9_lays_36 : decode cX9_lays 36 = .ok (.aload_n 0, 1) := zdcg 20 zdT_dX9_lays_0 rfl
theorem dX9_lays_37 : decode cX9_lays 37 = .ok (.iconst 0, 1) := zdcg 21 zdT_dX9_lays_0 rfl
theorem dX9_lays_38 : decode cX9_lays 38 = .ok (.putfield 208, 3) := zdcg 22 zdT_dX9_lays_0 rfl
theorem dX9_lays_41 : decode cX9_lays 41 = .ok (.iconst 0, 1) := zdcg 23 zdT_dX9_lays_0 rfl
theorem dX9_lays_42 : decode cX9_lays 42 = .ok (.istore_n 3, 1) := zdcg 24 zdT_dX9_lays_0 rfl
theorem zdT_dX9_lays_43 : zdch cX9_lays [(43, (.iload_n 3, 1)), (44, (.sipush 242, 3)), (47, (.if_icmp .ge 16, 3)), (50, (.aload_n 0, 1)), (51, (.getfield 102, 3)), (54, (.iload_n 3, 1)), (55, (.iconst 0, 1)), (56, (.iastore, 1)), (57, (.iinc 3 1, 3)), (60, (.goto (-17), 3)), (63, (.iconst 0, 1)), (64, (.istore_n 3, 1)), (65, (.iload_n 3, 1)), (66, (.aload_n 0, 1)), (67, (.getfield 153, 3)), (70, (.if_icmp .ge 149, 3)), (73, (.iconst 0, 1)), (74, (.istore 4, 2)), (76, (.iload 4, 2)), (78, (.aload_n 0, 1)), (79, (.getfield 153, 3)), (82, (.if_icmp .ge 33, 3)), (85, (.aload_n 0, 1)), (86, (.getfield 38, 3)), (89, (.bipush 11, 2))] = true := by decide +kernel
theorem dX9_lays_43 : decode cX9_lays 43 = .ok (.iload_n 3, 1) := zdcg 0 zdT_dX9_lays_43 rfl
theorem dX9_lays_44 : decode cX9_lays 44 = .ok (.sipush 242, 3) := zdcg 1 zdT_dX9_lays_43 rfl
theorem dX9_lays_47 : decode cX9_lays 47 = .ok (.if_icmp .ge 16, 3) := zdcg 2 zdT_dX9_lays_43 rfl
theorem dX9_lays_50 : decode cX9_lays 50 = .ok (.aload_n 0, 1) := zdcg 3 zdT_dX9_lays_43 rfl
theorem dX9_lays_51 : decode cX9_lays 51 = .ok (.getfield 102, 3) := zdcg 4 zdT_dX9_lays_43 rfl
theorem dX9_lays_54 : decode cX9_lays 54 = .ok (.iload_n 3, 1) := zdcg 5 zdT_dX9_lays_43 rfl
theorem dX9_lays_55 : decode cX9_lays 55 = .ok (.iconst 0, 1) := zdcg 6 zdT_dX9_lays_43 rfl
theorem dX9_lays_56 : decode cX9_lays 56 = .ok (.iastore, 1) := zdcg 7 zdT_dX9_lays_43 rfl
theorem dX9_lays_57 : decode cX9_lays 57 = .ok (.iinc 3 1, 3) := zdcg 8 zdT_dX9_lays_43 rfl
theorem dX9_lays_60 : decode cX9_lays 60 = .ok (.goto (-17), 3) := zdcg 9 zdT_dX9_lays_43 rfl
theorem dX9_lays_63 : decode cX9_lays 63 = .ok (.iconst 0, 1) := zdcg 10 zdT_dX9_lays_43 rfl
theorem dX9_lays_64 : decode cX9_lays 64 = .ok (.istore_n 3, 1) := zdcg 11 zdT_dX9_lays_43 rfl
theorem dX9_lays_65 : decode cX9_lays 65 = .ok (.iload_n 3, 1) := zdcg 12 zdT_dX9_lays_43 rfl
theorem dX9_lays_66 : decode cX9_lays 66 = .ok (.aload_n 0, 1) := zdcg 13 zdT_dX9_lays_43 rfl
theorem dX9_lays_67 : decode cX9_lays 67 = .ok (.getfield 153, 3) := zdcg 14 zdT_dX9_lays_43 rfl
theorem dX9_lays_70 : decode cX9_lays 70 = .ok (.if_icmp .ge 149, 3) := zdcg 15 zdT_dX9_lays_43 rfl
theorem dX9_lays_73 : decode cX9_lays 73 = .ok (.iconst 0, 1) := zdcg 16 zdT_dX9_lays_43 rfl
theorem dX9_lays_74 : decode cX9_lays 74 = .ok (.istore 4, 2) := zdcg 17 zdT_dX9_lays_43 rfl
theorem dX9_lays_76 : decode cX9_lays 76 = .ok (.iload 4, 2) := zdcg 18 zdT_dX9_lays_43 rfl
theorem dX9_lays_78 : decode cX9_lays 78 = .ok (.aload_n 0, 1) := zdcg 19 zdT_dX9_lays_43 rfl
theorem dX9_lays_79 : decode cX9_lays 79 = .ok (.getfield 153, 3) := zdcg 20 zdT_dX9_lays_43 rfl
theorem dX9_lays_82 : decode cX9_lays 82 = .ok (.if_icmp .ge 33, 3) := zdcg 21 zdT_dX9_lays_43 rfl
theorem dX9_lays_85 : decode cX9_lays 85 = .ok (.aload_n 0, 1) := zdcg 22 zdT_dX9_lays_43 rfl
theorem dX9_lays_86 : decode cX9_lays 86 = .ok (.getfield 38, 3) := zdcg 23 zdT_dX9_lays_43 rfl
theorem dX9_lays_89 : decode cX9_lays 89 = .ok (.bipush 11, 2) := zdcg 24 zdT_dX9_lays_43 rfl
theorem zdT_dX9_lays_91 : zdch cX9_lays [(91, (.iload_n 3, 1)), (92, (.imul, 1)), (93, (.iload 4, 2)), (95, (.iadd, 1)), (96, (.aload_n 0, 1)), (97, (.aload_n 0, 1)), (98, (.iload_n 3, 1)), (99, (.invokevirtual 202, 3)), (102, (.iload 4, 2)), (104, (.iconst 0, 1)), (105, (.invokevirtual 191, 3)), (108, (.iastore, 1)), (109, (.iinc 4 1, 3)), (112, (.goto (-36), 3)), (115, (.aload_n 0, 1)), (116, (.iload_n 3, 1)), (117, (.putfield 205, 3)), (120, (.aload_n 0, 1)), (121, (.getfield 53, 3)), (124, (.iload_n 3, 1)), (125, (.aload_n 0, 1)), (126, (.getfield 208, 3)), (129, (.iastore, 1)), (130, (.aload_n 0, 1)), (131, (.iconst 0, 1))] = true := by decide +kernel
theorem dX9_lays_91 : decode cX9_lays 91 = .ok (.iload_n 3, 1) := zdcg 0 zdT_dX9_lays_91 rfl
theorem dX9_lays_92 : decode cX9_lays 92 = .ok (.imul, 1) := zdcg 1 zdT_dX9_lays_91 rfl
theorem dX9_lays_93 : decode cX9_lays 93 = .ok (.iload 4, 2) := zdcg 2 zdT_dX9_lays_91 rfl
theorem dX9_lays_95 : decode cX9_lays 95 = .ok (.iadd, 1) := zdcg 3 zdT_dX9_lays_91 rfl
theorem dX9_lays_96 : decode cX9_lays 96 = .ok (.aload_n 0, 1) := zdcg 4 zdT_dX9_lays_91 rfl
theorem dX9_lays_97 : decode cX9_lays 97 = .ok (.aload_n 0, 1) := zdcg 5 zdT_dX9_lays_91 rfl
theorem dX9_lays_98 : decode cX9_lays 98 = .ok (.iload_n 3, 1) := zdcg 6 zdT_dX9_lays_91 rfl
theorem dX9_lays_99 : decode cX9_lays 99 = .ok (.invokevirtual 202, 3) := zdcg 7 zdT_dX9_lays_91 rfl
theorem dX9_lays_102 : decode cX9_lays 102 = .ok (.iload 4, 2) := zdcg 8 zdT_dX9_lays_91 rfl
theorem dX9_lays_104 : decode cX9_lays 104 = .ok (.iconst 0, 1) := zdcg 9 zdT_dX9_lays_91 rfl
theorem dX9_lays_105 : decode cX9_lays 105 = .ok (.invokevirtual 191, 3) := zdcg 10 zdT_dX9_lays_91 rfl
theorem dX9_lays_108 : decode cX9_lays 108 = .ok (.iastore, 1) := zdcg 11 zdT_dX9_lays_91 rfl
theorem dX9_lays_109 : decode cX9_lays 109 = .ok (.iinc 4 1, 3) := zdcg 12 zdT_dX9_lays_91 rfl
theorem dX9_lays_112 : decode cX9_lays 112 = .ok (.goto (-36), 3) := zdcg 13 zdT_dX9_lays_91 rfl
theorem dX9_lays_115 : decode cX9_lays 115 = .ok (.aload_n 0, 1) := zdcg 14 zdT_dX9_lays_91 rfl
theorem dX9_lays_116 : decode cX9_lays 116 = .ok (.iload_n 3, 1) := zdcg 15 zdT_dX9_lays_91 rfl
theorem dX9_lays_117 : decode cX9_lays 117 = .ok (.putfield 205, 3) := zdcg 16 zdT_dX9_lays_91 rfl
theorem dX9_lays_120 : decode cX9_lays 120 = .ok (.aload_n 0, 1) := zdcg 17 zdT_dX9_lays_91 rfl
theorem dX9_lays_121 : decode cX9_lays 121 = .ok (.getfield 53, 3) := zdcg 18 zdT_dX9_lays_91 rfl
theorem dX9_lays_124 : decode cX9_lays 124 = .ok (.iload_n 3, 1) := zdcg 19 zdT_dX9_lays_91 rfl
theorem dX9_lays_125 : decode cX9_lays 125 = .ok (.aload_n 0, 1) := zdcg 20 zdT_dX9_lays_91 rfl
theorem dX9_lays_126 : decode cX9_lays 126 = .ok (.getfield 208, 3) := zdcg 21 zdT_dX9_lays_91 rfl
theorem dX9_lays_129 : decode cX9_lays 129 = .ok (.iastore, 1) := zdcg 22 zdT_dX9_lays_91 rfl
theorem dX9_lays_130 : decode cX9_lays 130 = .ok (.aload_n 0, 1) := zdcg 23 zdT_dX9_lays_91 rfl
theorem dX9_lays_131 : decode cX9_lays 131 = .ok (.iconst 0, 1) := zdcg 24 zdT_dX9_lays_91 rfl
theorem zdT_dX9_lays_132 : zdch cX9_lays [(132, (.iconst 0, 1)), (133, (.invokevirtual 217, 3)), (136, (.aload_n 0, 1)), (137, (.getfield 56, 3)), (140, (.iload_n 3, 1)), (141, (.aload_n 0, 1)), (142, (.getfield 208, 3)), (145, (.aload_n 0, 1)), (146, (.getfield 53, 3)), (149, (.iload_n 3, 1)), (150, (.iaload, 1)), (151, (.isub, 1)), (152, (.iastore, 1)), (153, (.aload_n 0, 1)), (154, (.iload_n 3, 1)), (155, (.invokevirtual 272, 3)), (158, (.iconst 0, 1)), (159, (.istore 4, 2)), (161, (.iload 4, 2)), (163, (.aload_n 0, 1)), (164, (.getfield 153, 3)), (167, (.if_icmp .ge 46, 3)), (170, (.aload_n 0, 1)), (171, (.getfield 22, 3)), (174, (.iload_n 3, 1))] = true := by decide +kernel
theorem dX9_lays_132 : decode cX9_lays 132 = .ok (.iconst 0, 1) := zdcg 0 zdT_dX9_lays_132 rfl
theorem dX9_lays_133 : decode cX9_lays 133 = .ok (.invokevirtual 217, 3) := zdcg 1 zdT_dX9_lays_132 rfl
theorem dX9_lays_136 : decode cX9_lays 136 = .ok (.aload_n 0, 1) := zdcg 2 zdT_dX9_lays_132 rfl
theorem dX9_lays_137 : decode cX9_lays 137 = .ok (.getfield 56, 3) := zdcg 3 zdT_dX9_lays_132 rfl
theorem dX9_lays_140 : decode cX9_lays 140 = .ok (.iload_n 3, 1) := zdcg 4 zdT_dX9_lays_132 rfl
theorem dX9_lays_141 : decode cX9_lays 141 = .ok (.aload_n 0, 1) := zdcg 5 zdT_dX9_lays_132 rfl
theorem dX9_lays_142 : decode cX9_lays 142 = .ok (.getfield 208, 3) := zdcg 6 zdT_dX9_lays_132 rfl
theorem dX9_lays_145 : decode cX9_lays 145 = .ok (.aload_n 0, 1) := zdcg 7 zdT_dX9_lays_132 rfl
theorem dX9_lays_146 : decode cX9_lays 146 = .ok (.getfield 53, 3) := zdcg 8 zdT_dX9_lays_132 rfl
theorem dX9_lays_149 : decode cX9_lays 149 = .ok (.iload_n 3, 1) := zdcg 9 zdT_dX9_lays_132 rfl
theorem dX9_lays_150 : decode cX9_lays 150 = .ok (.iaload, 1) := zdcg 10 zdT_dX9_lays_132 rfl
theorem dX9_lays_151 : decode cX9_lays 151 = .ok (.isub, 1) := zdcg 11 zdT_dX9_lays_132 rfl
theorem dX9_lays_152 : decode cX9_lays 152 = .ok (.iastore, 1) := zdcg 12 zdT_dX9_lays_132 rfl
theorem dX9_lays_153 : decode cX9_lays 153 = .ok (.aload_n 0, 1) := zdcg 13 zdT_dX9_lays_132 rfl
theorem dX9_lays_154 : decode cX9_lays 154 = .ok (.iload_n 3, 1) := zdcg 14 zdT_dX9_lays_132 rfl
theorem dX9_lays_155 : decode cX9_lays 155 = .ok (.invokevirtual 272, 3) := zdcg 15 zdT_dX9_lays_132 rfl
theorem dX9_lays_158 : decode cX9_lays 158 = .ok (.iconst 0, 1) := zdcg 16 zdT_dX9_lays_132 rfl
theorem dX9_lays_159 : decode cX9_lays 159 = .ok (.istore 4, 2) := zdcg 17 zdT_dX9_lays_132 rfl
theorem dX9_lays_161 : decode cX9_lays 161 = .ok (.iload 4, 2) := zdcg 18 zdT_dX9_lays_132 rfl
theorem dX9_lays_163 : decode cX9_lays 163 = .ok (.aload_n 0, 1) := zdcg 19 zdT_dX9_lays_132 rfl
theorem dX9_lays_164 : decode cX9_lays 164 = .ok (.getfield 153, 3) := zdcg 20 zdT_dX9_lays_132 rfl
theorem dX9_lays_167 : decode cX9_lays 167 = .ok (.if_icmp .ge 46, 3) := zdcg 21 zdT_dX9_lays_132 rfl
theorem dX9_lays_170 : decode cX9_lays 170 = .ok (.aload_n 0, 1) := zdcg 22 zdT_dX9_lays_132 rfl
theorem dX9_lays_171 : decode cX9_lays 171 = .ok (.getfield 22, 3) := zdcg 23 zdT_dX9_lays_132 rfl
theorem dX9_lays_174 : decode cX9_lays 174 = .ok (.iload_n 3, 1) := zdcg 24 zdT_dX9_lays_132 rfl
theorem zdT_dX9_lays_175 : zdch cX9_lays [(175, (.baload, 1)), (176, (.ifCond .eq 37, 3)), (179, (.aload_n 0, 1)), (180, (.getfield 26, 3)), (183, (.iload 4, 2)), (185, (.baload, 1)), (186, (.ifCond .eq 21, 3)), (189, (.aload_n 0, 1)), (190, (.getfield 96, 3)), (193, (.bipush 11, 2)), (195, (.iload_n 3, 1)), (196, (.imul, 1)), (197, (.iload 4, 2)), (199, (.iadd, 1)), (200, (.aload_n 0, 1)), (201, (.iload 4, 2)), (203, (.invokevirtual 275, 3)), (206, (.iastore, 1)), (207, (.iinc 4 1, 3)), (210, (.goto (-49), 3)), (213, (.iinc 3 1, 3)), (216, (.goto (-151), 3)), (219, (.aload_n 0, 1)), (220, (.invokevirtual 278, 3)), (223, (.iconst 0, 1))] = true := by decide +kernel
theorem dX9_lays_175 : decode cX9_lays 175 = .ok (.baload, 1) := zdcg 0 zdT_dX9_lays_175 rfl
theorem dX9_lays_176 : decode cX9_lays 176 = .ok (.ifCond .eq 37, 3) := zdcg 1 zdT_dX9_lays_175 rfl
theorem dX9_lays_179 : decode cX9_lays 179 = .ok (.aload_n 0, 1) := zdcg 2 zdT_dX9_lays_175 rfl
theorem dX9_lays_180 : decode cX9_lays 180 = .ok (.getfield 26, 3) := zdcg 3 zdT_dX9_lays_175 rfl
theorem dX9_lays_183 : decode cX9_lays 183 = .ok (.iload 4, 2) := zdcg 4 zdT_dX9_lays_175 rfl
theorem dX9_lays_185 : decode cX9_lays 185 = .ok (.baload, 1) := zdcg 5 zdT_dX9_lays_175 rfl
theorem dX9_lays_186 : decode cX9_lays 186 = .ok (.ifCond .eq 21, 3) := zdcg 6 zdT_dX9_lays_175 rfl
theorem dX9_lays_189 : decode cX9_lays 189 = .ok (.aload_n 0, 1) := zdcg 7 zdT_dX9_lays_175 rfl
theorem dX9_lays_190 : decode cX9_lays 190 = .ok (.getfield 96, 3) := zdcg 8 zdT_dX9_lays_175 rfl
theorem dX9_lays_193 : decode cX9_lays 193 = .ok (.bipush 11, 2) := zdcg 9 zdT_dX9_lays_175 rfl
theorem dX9_lays_195 : decode cX9_lays 195 = .ok (.iload_n 3, 1) := zdcg 10 zdT_dX9_lays_175 rfl
theorem dX9_lays_196 : decode cX9_lays 196 = .ok (.imul, 1) := zdcg 11 zdT_dX9_lays_175 rfl
theorem dX9_lays_197 : decode cX9_lays 197 = .ok (.iload 4, 2) := zdcg 12 zdT_dX9_lays_175 rfl
theorem dX9_lays_199 : decode cX9_lays 199 = .ok (.iadd, 1) := zdcg 13 zdT_dX9_lays_175 rfl
theorem dX9_lays_200 : decode cX9_lays 200 = .ok (.aload_n 0, 1) := zdcg 14 zdT_dX9_lays_175 rfl
theorem dX9_lays_201 : decode cX9_lays 201 = .ok (.iload 4, 2) := zdcg 15 zdT_dX9_lays_175 rfl
theorem dX9_lays_203 : decode cX9_lays 203 = .ok (.invokevirtual 275, 3) := zdcg 16 zdT_dX9_lays_175 rfl
theorem dX9_lays_206 : decode cX9_lays 206 = .ok (.iastore, 1) := zdcg 17 zdT_dX9_lays_175 rfl
theorem dX9_lays_207 : decode cX9_lays 207 = .ok (.iinc 4 1, 3) := zdcg 18 zdT_dX9_lays_175 rfl
theorem dX9_lays_210 : decode cX9_lays 210 = .ok (.goto (-49), 3) := zdcg 19 zdT_dX9_lays_175 rfl
theorem dX9_lays_213 : decode cX9_lays 213 = .ok (.iinc 3 1, 3) := zdcg 20 zdT_dX9_lays_175 rfl
theorem dX9_lays_216 : decode cX9_lays 216 = .ok (.goto (-151), 3) := zdcg 21 zdT_dX9_lays_175 rfl
theorem dX9_lays_219 : decode cX9_lays 219 = .ok (.aload_n 0, 1) := zdcg 22 zdT_dX9_lays_175 rfl
theorem dX9_lays_220 : decode cX9_lays 220 = .ok (.invokevirtual 278, 3) := zdcg 23 zdT_dX9_lays_175 rfl
theorem dX9_lays_223 : decode cX9_lays 223 = .ok (.iconst 0, 1) := zdcg 24 zdT_dX9_lays_175 rfl
theorem zdT_dX9_lays_224 : zdch cX9_lays [(224, (.istore_n 3, 1)), (225, (.iload_n 3, 1)), (226, (.aload_n 0, 1)), (227, (.getfield 153, 3)), (230, (.if_icmp .ge 107, 3)), (233, (.iconst 0, 1)), (234, (.istore 4, 2)), (236, (.iload 4, 2)), (238, (.aload_n 0, 1)), (239, (.getfield 153, 3)), (242, (.if_icmp .ge 89, 3)), (245, (.aload_n 0, 1)), (246, (.getfield 22, 3)), (249, (.iload_n 3, 1)), (250, (.baload, 1)), (251, (.ifCond .eq 80, 3)), (254, (.iconst 0, 1)), (255, (.istore 5, 2)), (257, (.iconst 0, 1)), (258, (.istore 6, 2)), (260, (.iload 6, 2)), (262, (.aload_n 0, 1)), (263, (.getfield 153, 3)), (266, (.if_icmp .ge 45, 3)), (269, (.iload 5, 2))] = true := by decide +kernel
theorem dX9_lays_224 : decode cX9_lays 224 = .ok (.istore_n 3, 1) := zdcg 0 zdT_dX9_lays_224 rfl
theorem dX9_lays_225 : decode cX9_lays 225 = .ok (.iload_n 3, 1) := zdcg 1 zdT_dX9_lays_224 rfl
theorem dX9_lays_226 : decode cX9_lays 226 = .ok (.aload_n 0, 1) := zdcg 2 zdT_dX9_lays_224 rfl
theorem dX9_lays_227 : decode cX9_lays 227 = .ok (.getfield 153, 3) := zdcg 3 zdT_dX9_lays_224 rfl
theorem dX9_lays_230 : decode cX9_lays 230 = .ok (.if_icmp .ge 107, 3) := zdcg 4 zdT_dX9_lays_224 rfl
theorem dX9_lays_233 : decode cX9_lays 233 = .ok (.iconst 0, 1) := zdcg 5 zdT_dX9_lays_224 rfl
theorem dX9_lays_234 : decode cX9_lays 234 = .ok (.istore 4, 2) := zdcg 6 zdT_dX9_lays_224 rfl
theorem dX9_lays_236 : decode cX9_lays 236 = .ok (.iload 4, 2) := zdcg 7 zdT_dX9_lays_224 rfl
theorem dX9_lays_238 : decode cX9_lays 238 = .ok (.aload_n 0, 1) := zdcg 8 zdT_dX9_lays_224 rfl
theorem dX9_lays_239 : decode cX9_lays 239 = .ok (.getfield 153, 3) := zdcg 9 zdT_dX9_lays_224 rfl
theorem dX9_lays_242 : decode cX9_lays 242 = .ok (.if_icmp .ge 89, 3) := zdcg 10 zdT_dX9_lays_224 rfl
theorem dX9_lays_245 : decode cX9_lays 245 = .ok (.aload_n 0, 1) := zdcg 11 zdT_dX9_lays_224 rfl
theorem dX9_lays_246 : decode cX9_lays 246 = .ok (.getfield 22, 3) := zdcg 12 zdT_dX9_lays_224 rfl
theorem dX9_lays_249 : decode cX9_lays 249 = .ok (.iload_n 3, 1) := zdcg 13 zdT_dX9_lays_224 rfl
theorem dX9_lays_250 : decode cX9_lays 250 = .ok (.baload, 1) := zdcg 14 zdT_dX9_lays_224 rfl
theorem dX9_lays_251 : decode cX9_lays 251 = .ok (.ifCond .eq 80, 3) := zdcg 15 zdT_dX9_lays_224 rfl
theorem dX9_lays_254 : decode cX9_lays 254 = .ok (.iconst 0, 1) := zdcg 16 zdT_dX9_lays_224 rfl
theorem dX9_lays_255 : decode cX9_lays 255 = .ok (.istore 5, 2) := zdcg 17 zdT_dX9_lays_224 rfl
theorem dX9_lays_257 : decode cX9_lays 257 = .ok (.iconst 0, 1) := zdcg 18 zdT_dX9_lays_224 rfl
theorem dX9_lays_258 : decode cX9_lays 258 = .ok (.istore 6, 2) := zdcg 19 zdT_dX9_lays_224 rfl
theorem dX9_lays_260 : decode cX9_lays 260 = .ok (.iload 6, 2) := zdcg 20 zdT_dX9_lays_224 rfl
theorem dX9_lays_262 : decode cX9_lays 262 = .ok (.aload_n 0, 1) := zdcg 21 zdT_dX9_lays_224 rfl
theorem dX9_lays_263 : decode cX9_lays 263 = .ok (.getfield 153, 3) := zdcg 22 zdT_dX9_lays_224 rfl
theorem dX9_lays_266 : decode cX9_lays 266 = .ok (.if_icmp .ge 45, 3) := zdcg 23 zdT_dX9_lays_224 rfl
theorem dX9_lays_269 : decode cX9_lays 269 = .ok (.iload 5, 2) := zdcg 24 zdT_dX9_lays_224 rfl
theorem zdT_dX9_lays_271 : zdch cX9_lays [(271, (.aload_n 0, 1)), (272, (.getfield 99, 3)), (275, (.bipush 11, 2)), (277, (.iload 6, 2)), (279, (.imul, 1)), (280, (.aload_n 0, 1)), (281, (.getfield 32, 3)), (284, (.iload_n 3, 1)), (285, (.iaload, 1)), (286, (.iadd, 1)), (287, (.iaload, 1)), (288, (.aload_n 0, 1)), (289, (.getfield 38, 3)), (292, (.bipush 11, 2)), (294, (.iload 6, 2)), (296, (.imul, 1)), (297, (.iload 4, 2)), (299, (.iadd, 1)), (300, (.iaload, 1)), (301, (.imul, 1)), (302, (.iadd, 1)), (303, (.istore 5, 2)), (305, (.iinc 6 1, 3)), (308, (.goto (-48), 3)), (311, (.aload_n 0, 1))] = true := by decide +kernel
theorem dX9_lays_271 : decode cX9_lays 271 = .ok (.aload_n 0, 1) := zdcg 0 zdT_dX9_lays_271 rfl
theorem dX9_lays_272 : decode cX9_lays 272 = .ok (.getfield 99, 3) := zdcg 1 zdT_dX9_lays_271 rfl
theorem dX9_lays_275 : decode cX9_lays 275 = .ok (.bipush 11, 2) := zdcg 2 zdT_dX9_lays_271 rfl
theorem dX9_lays_277 : decode cX9_lays 277 = .ok (.iload 6, 2) := zdcg 3 zdT_dX9_lays_271 rfl
theorem dX9_lays_279 : decode cX9_lays 279 = .ok (.imul, 1) := zdcg 4 zdT_dX9_lays_271 rfl
theorem dX9_lays_280 : decode cX9_lays 280 = .ok (.aload_n 0, 1) := zdcg 5 zdT_dX9_lays_271 rfl
theorem dX9_lays_281 : decode cX9_lays 281 = .ok (.getfield 32, 3) := zdcg 6 zdT_dX9_lays_271 rfl
theorem dX9_lays_284 : decode cX9_lays 284 = .ok (.iload_n 3, 1) := zdcg 7 zdT_dX9_lays_271 rfl
theorem dX9_lays_285 : decode cX9_lays 285 = .ok (.iaload, 1) := zdcg 8 zdT_dX9_lays_271 rfl
theorem dX9_lays_286 : decode cX9_lays 286 = .ok (.iadd, 1) := zdcg 9 zdT_dX9_lays_271 rfl
theorem dX9_lays_287 : decode cX9_lays 287 = .ok (.iaload, 1) := zdcg 10 zdT_dX9_lays_271 rfl
theorem dX9_lays_288 : decode cX9_lays 288 = .ok (.aload_n 0, 1) := zdcg 11 zdT_dX9_lays_271 rfl
theorem dX9_lays_289 : decode cX9_lays 289 = .ok (.getfield 38, 3) := zdcg 12 zdT_dX9_lays_271 rfl
theorem dX9_lays_292 : decode cX9_lays 292 = .ok (.bipush 11, 2) := zdcg 13 zdT_dX9_lays_271 rfl
theorem dX9_lays_294 : decode cX9_lays 294 = .ok (.iload 6, 2) := zdcg 14 zdT_dX9_lays_271 rfl
theorem dX9_lays_296 : decode cX9_lays 296 = .ok (.imul, 1) := zdcg 15 zdT_dX9_lays_271 rfl
theorem dX9_lays_297 : decode cX9_lays 297 = .ok (.iload 4, 2) := zdcg 16 zdT_dX9_lays_271 rfl
theorem dX9_lays_299 : decode cX9_lays 299 = .ok (.iadd, 1) := zdcg 17 zdT_dX9_lays_271 rfl
theorem dX9_lays_300 : decode cX9_lays 300 = .ok (.iaload, 1) := zdcg 18 zdT_dX9_lays_271 rfl
theorem dX9_lays_301 : decode cX9_lays 301 = .ok (.imul, 1) := zdcg 19 zdT_dX9_lays_271 rfl
theorem dX9_lays_302 : decode cX9_lays 302 = .ok (.iadd, 1) := zdcg 20 zdT_dX9_lays_271 rfl
theorem dX9_lays_303 : decode cX9_lays 303 = .ok (.istore 5, 2) := zdcg 21 zdT_dX9_lays_271 rfl
theorem dX9_lays_305 : decode cX9_lays 305 = .ok (.iinc 6 1, 3) := zdcg 22 zdT_dX9_lays_271 rfl
theorem dX9_lays_308 : decode cX9_lays 308 = .ok (.goto (-48), 3) := zdcg 23 zdT_dX9_lays_271 rfl
theorem dX9_lays_311 : decode cX9_lays 311 = .ok (.aload_n 0, 1) := zdcg 24 zdT_dX9_lays_271 rfl
theorem zdT_dX9_lays_312 : zdch cX9_lays [(312, (.getfield 105, 3)), (315, (.bipush 11, 2)), (317, (.iload_n 3, 1)), (318, (.imul, 1)), (319, (.iload 4, 2)), (321, (.iadd, 1)), (322, (.iload 5, 2)), (324, (.iastore, 1)), (325, (.iinc 4 1, 3)), (328, (.goto (-92), 3)), (331, (.iinc 3 1, 3)), (334, (.goto (-109), 3)), (337, (.iconst 0, 1)), (338, (.istore_n 3, 1)), (339, (.iload_n 3, 1)), (340, (.bipush 66, 2)), (342, (.if_icmp .ge 16, 3)), (345, (.aload_n 0, 1)), (346, (.getfield 115, 3)), (349, (.iload_n 3, 1)), (350, (.lconst 0, 1)), (351, (.lastore, 1)), (352, (.iinc 3 1, 3)), (355, (.goto (-16), 3)), (358, (.return_, 1))] = true := by decide +kernel
theorem dX9_lays_312 : decode cX9_lays 312 = .ok (.getfield 105, 3) := zdcg 0 zdT_dX9_lays_312 rfl
theorem dX9_lays_315 : decode cX9_lays 315 = .ok (.bipush 11, 2) := zdcg 1 zdT_dX9_lays_312 rfl
theorem dX9_lays_317 : decode cX9_lays 317 = .ok (.iload_n 3, 1) := zdcg 2 zdT_dX9_lays_312 rfl
theorem dX9_lays_318 : decode cX9_lays 318 = .ok (.imul, 1) := zdcg 3 zdT_dX9_lays_312 rfl
theorem dX9_lays_319 : decode cX9_lays 319 = .ok (.iload 4, 2) := zdcg 4 zdT_dX9_lays_312 rfl
theorem dX9_lays_321 : decode cX9_lays 321 = .ok (.iadd, 1) := zdcg 5 zdT_dX9_lays_312 rfl
theorem dX9_lays_322 : decode cX9_lays 322 = .ok (.iload 5, 2) := zdcg 6 zdT_dX9_lays_312 rfl
theorem dX9_lays_324 : decode cX9_lays 324 = .ok (.iastore, 1) := zdcg 7 zdT_dX9_lays_312 rfl
theorem dX9_lays_325 : decode cX9_lays 325 = .ok (.iinc 4 1, 3) := zdcg 8 zdT_dX9_lays_312 rfl
theorem dX9_lays_328 : decode cX9_lays 328 = .ok (.goto (-92), 3) := zdcg 9 zdT_dX9_lays_312 rfl
theorem dX9_lays_331 : decode cX9_lays 331 = .ok (.iinc 3 1, 3) := zdcg 10 zdT_dX9_lays_312 rfl
theorem dX9_lays_334 : decode cX9_lays 334 = .ok (.goto (-109), 3) := zdcg 11 zdT_dX9_lays_312 rfl
theorem dX9_lays_337 : decode cX9_lays 337 = .ok (.iconst 0, 1) := zdcg 12 zdT_dX9_lays_312 rfl
theorem dX9_lays_338 : decode cX9_lays 338 = .ok (.istore_n 3, 1) := zdcg 13 zdT_dX9_lays_312 rfl
theorem dX9_lays_339 : decode cX9_lays 339 = .ok (.iload_n 3, 1) := zdcg 14 zdT_dX9_lays_312 rfl
theorem dX9_lays_340 : decode cX9_lays 340 = .ok (.bipush 66, 2) := zdcg 15 zdT_dX9_lays_312 rfl
theorem dX9_lays_342 : decode cX9_lays 342 = .ok (.if_icmp .ge 16, 3) := zdcg 16 zdT_dX9_lays_312 rfl
theorem dX9_lays_345 : decode cX9_lays 345 = .ok (.aload_n 0, 1) := zdcg 17 zdT_dX9_lays_312 rfl
theorem dX9_lays_346 : decode cX9_lays 346 = .ok (.getfield 115, 3) := zdcg 18 zdT_dX9_lays_312 rfl
theorem dX9_lays_349 : decode cX9_lays 349 = .ok (.iload_n 3, 1) := zdcg 19 zdT_dX9_lays_312 rfl
theorem dX9_lays_350 : decode cX9_lays 350 = .ok (.lconst 0, 1) := zdcg 20 zdT_dX9_lays_312 rfl
theorem dX9_lays_351 : decode cX9_lays 351 = .ok (.lastore, 1) := zdcg 21 zdT_dX9_lays_312 rfl
theorem dX9_lays_352 : decode cX9_lays 352 = .ok (.iinc 3 1, 3) := zdcg 22 zdT_dX9_lays_312 rfl
theorem dX9_lays_355 : decode cX9_lays 355 = .ok (.goto (-16), 3) := zdcg 23 zdT_dX9_lays_312 rfl
theorem dX9_lays_358 : decode cX9_lays 358 = .ok (.return_, 1) := zdcg 24 zdT_dX9_lays_312 rfl
theorem zdT_dX9_group_0 : zdch cX9_group [(0, (.iload_n 1, 1)), (1, (.i2l, 1)), (2, (.lconst 1, 1)), (3, (.ldc2_w 281, 3)), (6, (.invokestatic 283, 3)), (9, (.ifCond .eq 24, 3)), (12, (.iload_n 2, 1)), (13, (.iconst 2, 1)), (14, (.if_icmp .eq 21, 3)), (17, (.iload_n 2, 1)), (18, (.iconst 3, 1)), (19, (.if_icmp .eq 16, 3)), (22, (.iload_n 2, 1)), (23, (.iconst 5, 1)), (24, (.if_icmp .eq 11, 3)), (27, (.iload_n 2, 1)), (28, (.bipush 7, 2)), (30, (.if_icmp .eq 5, 3)), (33, (.iconst (-1), 1)), (34, (.ireturn, 1)), (35, (.aload_n 0, 1)), (36, (.iload_n 1, 1)), (37, (.iload_n 2, 1)), (38, (.invokevirtual 149, 3)), (41, (.aload_n 0, 1))] = true := by decide +kernel
theorem dX9_group_0 : decode cX9_group 0 = .ok (.iload_n 1, 1) := zdcg 0 zdT_dX9_group_0 rfl
theorem dX9_group_1 : decode cX9_group 1 = .ok (.i2l, 1) := zdcg 1 zdT_dX9_group_0 rfl
theorem dX9_group_2 : decode cX9_group 2 = .ok (.lconst 1, 1) := zdcg 2 zdT_dX9_group_0 rfl
theorem dX9_group_3 : decode cX9_group 3 = .ok (.ldc2_w 281, 3) := zdcg 3 zdT_dX9_group_0 rfl
theorem dX9_group_6 : decode cX9_group 6 = .ok (.invokestatic 283, 3) := zdcg 4 zdT_dX9_group_0 rfl
theorem dX9_group_9 : decode cX9_group 9 = .ok (.ifCond .eq 24, 3) := zdcg 5 zdT_dX9_group_0 rfl
theorem dX9_group_12 : decode cX9_group 12 = .ok (.iload_n 2, 1) := zdcg 6 zdT_dX9_group_0 rfl
theorem dX9_group_13 : decode cX9_group 13 = .ok (.iconst 2, 1) := zdcg 7 zdT_dX9_group_0 rfl
theorem dX9_group_14 : decode cX9_group 14 = .ok (.if_icmp .eq 21, 3) := zdcg 8 zdT_dX9_group_0 rfl
theorem dX9_group_17 : decode cX9_group 17 = .ok (.iload_n 2, 1) := zdcg 9 zdT_dX9_group_0 rfl
theorem dX9_group_18 : decode cX9_group 18 = .ok (.iconst 3, 1) := zdcg 10 zdT_dX9_group_0 rfl
theorem dX9_group_19 : decode cX9_group 19 = .ok (.if_icmp .eq 16, 3) := zdcg 11 zdT_dX9_group_0 rfl
theorem dX9_group_22 : decode cX9_group 22 = .ok (.iload_n 2, 1) := zdcg 12 zdT_dX9_group_0 rfl
theorem dX9_group_23 : decode cX9_group 23 = .ok (.iconst 5, 1) := zdcg 13 zdT_dX9_group_0 rfl
theorem dX9_group_24 : decode cX9_group 24 = .ok (.if_icmp .eq 11, 3) := zdcg 14 zdT_dX9_group_0 rfl
theorem dX9_group_27 : decode cX9_group 27 = .ok (.iload_n 2, 1) := zdcg 15 zdT_dX9_group_0 rfl
theorem dX9_group_28 : decode cX9_group 28 = .ok (.bipush 7, 2) := zdcg 16 zdT_dX9_group_0 rfl
theorem dX9_group_30 : decode cX9_group 30 = .ok (.if_icmp .eq 5, 3) := zdcg 17 zdT_dX9_group_0 rfl
theorem dX9_group_33 : decode cX9_group 33 = .ok (.iconst (-1), 1) := zdcg 18 zdT_dX9_group_0 rfl
theorem dX9_group_34 : decode cX9_group 34 = .ok (.ireturn, 1) := zdcg 19 zdT_dX9_group_0 rfl
theorem dX9_group_35 : decode cX9_group 35 = .ok (.aload_n 0, 1) := zdcg 20 zdT_dX9_group_0 rfl
theorem dX9_group_36 : decode cX9_group 36 = .ok (.iload_n 1, 1) := zdcg 21 zdT_dX9_group_0 rfl
theorem dX9_group_37 : decode cX9_group 37 = .ok (.iload_n 2, 1) := zdcg 22 zdT_dX9_group_0 rfl
theorem dX9_group_38 : decode cX9_group 38 = .ok (.invokevirtual 149, 3) := zdcg 23 zdT_dX9_group_0 rfl
theorem dX9_group_41 : decode cX9_group 41 = .ok (.aload_n 0, 1) := zdcg 24 zdT_dX9_group_0 rfl
theorem zdT_dX9_group_42 : zdch cX9_group [(42, (.getfield 153, 3)), (45, (.ireturn, 1))] = true := by decide +kernel
theorem dX9_group_42 : decode cX9_group 42 = .ok (.getfield 153, 3) := zdcg 0 zdT_dX9_group_42 rfl
theorem dX9_group_45 : decode cX9_group 45 = .ok (.ireturn, 1) := zdcg 1 zdT_dX9_group_42 rfl
theorem zdT_dJ9_max_7cf53_0 : zdch cJ9_max_7cf53 [(0, (.iload_n 0, 1)), (1, (.iload_n 1, 1)), (2, (.if_icmp .lt 7, 3)), (5, (.iload_n 0, 1)), (6, (.goto 4, 3)), (9, (.iload_n 1, 1)), (10, (.ireturn, 1))] = true := by decide +kernel
theorem dJ9_max_7cf53_0 : decode cJ9_max_7cf53 0 = .ok (.iload_n 0, 1) := zdcg 0 zdT_dJ9_max_7cf53_0 rfl
theorem dJ9_max_7cf53_1 : decode cJ9_max_7cf53 1 = .ok (.iload_n 1, 1) := zdcg 1 zdT_dJ9_max_7cf53_0 rfl
theorem dJ9_max_7cf53_2 : decode cJ9_max_7cf53 2 = .ok (.if_icmp .lt 7, 3) := zdcg 2 zdT_dJ9_max_7cf53_0 rfl
theorem dJ9_max_7cf53_5 : decode cJ9_max_7cf53 5 = .ok (.iload_n 0, 1) := zdcg 3 zdT_dJ9_max_7cf53_0 rfl
theorem dJ9_max_7cf53_6 : decode cJ9_max_7cf53 6 = .ok (.goto 4, 3) := zdcg 4 zdT_dJ9_max_7cf53_0 rfl
theorem dJ9_max_7cf53_9 : decode cJ9_max_7cf53 9 = .ok (.iload_n 1, 1) := zdcg 5 zdT_dJ9_max_7cf53_0 rfl
theorem dJ9_max_7cf53_10 : decode cJ9_max_7cf53 10 = .ok (.ireturn, 1) := zdcg 6 zdT_dJ9_max_7cf53_0 rfl
theorem zdT_dJ9_min_7cf53_0 : zdch cJ9_min_7cf53 [(0, (.iload_n 0, 1)), (1, (.iload_n 1, 1)), (2, (.if_icmp .gt 7, 3)), (5, (.iload_n 0, 1)), (6, (.goto 4, 3)), (9, (.iload_n 1, 1)), (10, (.ireturn, 1))] = true := by decide +kernel
theorem dJ9_min_7cf53_0 : decode cJ9_min_7cf53 0 = .ok (.iload_n 0, 1) := zdcg 0 zdT_dJ9_min_7cf53_0 rfl
theorem dJ9_min_7cf53_1 : decode cJ9_min_7cf53 1 = .ok (.iload_n 1, 1) := zdcg 1 zdT_dJ9_min_7cf53_0 rfl
theorem dJ9_min_7cf53_2 : decode cJ9_min_7cf53 2 = .ok (.if_icmp .gt 7, 3) := zdcg 2 zdT_dJ9_min_7cf53_0 rfl
theorem dJ9_min_7cf53_5 : decode cJ9_min_7cf53 5 = .ok (.iload_n 0, 1) := zdcg 3 zdT_dJ9_min_7cf53_0 rfl
theorem dJ9_min_7cf53_6 : decode cJ9_min_7cf53 6 = .ok (.goto 4, 3) := zdcg 4 zdT_dJ9_min_7cf53_0 rfl
theorem dJ9_min_7cf53_9 : decode cJ9_min_7cf53 9 = .ok (.iload_n 1, 1) := zdcg 5 zdT_dJ9_min_7cf53_0 rfl
theorem dJ9_min_7cf53_10 : decode cJ9_min_7cf53 10 = .ok (.ireturn, 1) := zdcg 6 zdT_dJ9_min_7cf53_0 rfl
end
section
/-! Math.max, Math.min -/
def zmax (a b : Nat) : Nat := zk2 a b (cond (zlei b a) a b)
def zmin (a b : Nat) : Nat := zk2 a b (cond (zlei a b) a b)
theorem zmax_ok {a b : Nat} {x y : Int32} (hx : a < 4294967296 → zi x = a) (hy : b < 4294967296 → zi y = b) : zmax a b < 4294967296 → zi (if x < y then y else x) = zmax a b := zk2_ok hx hy (fun h1 h2 => by
  subst h1
  subst h2
  cases hb : zlei (zi y) (zi x)
  · have : ¬ y ≤ x := fun q => by rw [zlei_ok.mpr q] at hb; cases hb
    rw [if_pos (Int32.not_le.mp this), cond_false]
  · have : y ≤ x := zlei_ok.mp hb
    rw [if_neg (Int32.not_lt.mpr this), cond_true])
theorem zmin_ok {a b : Nat} {x y : Int32} (hx : a < 4294967296 → zi x = a) (hy : b < 4294967296 → zi y = b) : zmin a b < 4294967296 → zi (if y < x then y else x) = zmin a b := zk2_ok hx hy (fun h1 h2 => by
  subst h1
  subst h2
  cases hb : zlei (zi x) (zi y)
  · have : ¬ x ≤ y := fun q => by rw [zlei_ok.mpr q] at hb; cases hb
    rw [if_pos (Int32.not_le.mp this), cond_false]
  · have : x ≤ y := zlei_ok.mp hb
    rw [if_neg (Int32.not_lt.mpr this), cond_true])
theorem zmax_le (a b : Nat) : zmax a b ≤ 4294967296 := zk2_le (fun h1 h2 => by cases zlei b a <;> first | exact Nat.le_of_lt h1 | exact Nat.le_of_lt h2)
theorem zmin_le (a b : Nat) : zmin a b ≤ 4294967296 := zk2_le (fun h1 h2 => by cases zlei a b <;> first | exact Nat.le_of_lt h1 | exact Nat.le_of_lt h2)
section OPS
variable {d : Nat} {X : zM} {fr : Nat} {P : zP d} {pc : Nat} {k : zK d}
noncomputable def xmm (z : Nat → Nat → Nat) (k : zK d) : zK d := fun L S h => zpI S (fun b S => zpI S (fun a S => zle4 S (zF (fun v => k L (zI v :: S) h) (z a b))))
theorem sm_mm [G : zGh] {z : Nat → Nat → Nat} {Gf : Int32 → Int32 → Int32} (hz : ∀ {a b : Nat} {x y : Int32}, (a < 4294967296 → zi x = a) → (b < 4294967296 → zi y = b) → z a b < 4294967296 → zi (Gf x y) = z a b) (hle : ∀ a b, z a b ≤ 4294967296) (row : ∀ {p : Program} {l : Launch} {e : Env} {R : Room} {s : State} {m : MethodId} {args : Array Value} {below : List Frame} {meth : Method} {c : Code} {H : Heap} {locs : List Loc} {cells slots : Nat} {Q : State → Prop} {ls : Array Slot} {rest : List Value} {x y : Int32} {cA : Nat → ClassId} {D : va_G} {A : Nat → Prop}, zCx X cA D p s m args meth c A → c.maxLocals = ls.size → 1 ≤ R.frames → (rest.map fun v => v.category).sum + 13 ≤ R.locals → cells ≤ R.cells → slots ≤ R.slots → W p l e R s m args below meth c H locs cells slots Q (F0 m (pc + 3) ls (.int (Gf x y) :: rest)) → W p l e R s m args below meth c H locs cells slots Q (F0 m pc ls (.int y :: .int x :: rest))) (hfr : 1 ≤ fr) (hs : zSim X fr P (pc + 3) k) : zSim X fr P pc (xmm z k) := by
  intro Ch cA D ad0 A MC MS p l e s m args below meth c ls st H locs cells slots L S h Cx hk R0
  obtain ⟨ws, hHp, hpre, hP, hD, hS, hL, hst, hcb, hsb⟩ := R0
  obtain ⟨b, S, rfl, hk1⟩ := zpI_t hk
  obtain ⟨a, S, rfl, hk2⟩ := zpI_t hk1
  obtain ⟨y, st, rfl, hy, hst1⟩ := zRepL_I hst
  obtain ⟨x, st, rfl, hx, hst2⟩ := zRepL_I hst1
  obtain ⟨h4, hk3⟩ := zle4_t hk2
  have hk3 : zF (fun v => k L (zI v :: S) h) (z a b) = true := hk3
  rw [zF_eq] at hk3
  have hcat := zcat hst2
  exact row Cx (by rw [Cx.2.2.1]; exact hL.2.choose_spec.1.1.symm) hfr (by show (st.map fun v => v.category).sum + 13 ≤ 64 * fr; omega) (by show cells ≤ MC; omega) (by show slots ≤ MS; omega) (hs Ch cA D ad0 A MC MS p l e s m args below meth c ls _ H locs cells slots L _ h Cx hk3 ⟨ws, hHp, hpre, hP, hD, hS, hL, ⟨⟨_, rfl, zIs_of (hz hx.1 hy.1) (hle _ _)⟩, hst2⟩, hcb, hsb⟩)
theorem sm_mmax [G : zGh] {index : Nat} (hlink : Cond.methodLink X.1 index Lib.Math.max.name ∈ ztbl) (hstat : Cond.static Lib.Math.max.name ∈ ztbl) (hini : Cond.initialized "java/lang/Math" ∈ ztbl) (hcode : Cond.code Lib.Math.max.name Lib.Math.max.code 2 (some .int) ∈ ztbl) (hfr : 1 ≤ fr) (dg : decode X.2.1 pc = .ok (.invokestatic index, 3)) (hs : zSim X fr P (pc + 3) k) : zSim X fr P pc (xmm zmax k) := sm_mm zmax_ok zmax_le (fun Cx h1 h2 h3 h4 h5 kk => va_mmax Cx.1 Cx.2.1 h1 Cx.2.2.2.1 (Cx.2.2.2.2.1 _ hlink) (Cx.2.2.2.2.1 _ hstat) (Cx.2.2.2.2.1 _ hini) (Cx.2.2.2.2.1 _ hcode) h2 h3 h4 h5 dg kk) hfr hs
theorem sm_mmin [G : zGh] {index : Nat} (hlink : Cond.methodLink X.1 index Lib.Math.min.name ∈ ztbl) (hstat : Cond.static Lib.Math.min.name ∈ ztbl) (hini : Cond.initialized "java/lang/Math" ∈ ztbl) (hcode : Cond.code Lib.Math.min.name Lib.Math.min.code 2 (some .int) ∈ ztbl) (hfr : 1 ≤ fr) (dg : decode X.2.1 pc = .ok (.invokestatic index, 3)) (hs : zSim X fr P (pc + 3) k) : zSim X fr P pc (xmm zmin k) := sm_mm zmin_ok zmin_le (fun Cx h1 h2 h3 h4 h5 kk => va_mmin Cx.1 Cx.2.1 h1 Cx.2.2.2.1 (Cx.2.2.2.2.1 _ hlink) (Cx.2.2.2.2.1 _ hstat) (Cx.2.2.2.2.1 _ hini) (Cx.2.2.2.2.1 _ hcode) h2 h3 h4 h5 dg kk) hfr hs
end OPS
end
section
/-! links, by program -/
theorem gf_X9_7 [zGh] {d : Nat} {X : zM} {fr : Nat} {P : zP d} {pc : Nat} {k : zK d} (h1 : X.1 = RX9) (dg : decode X.2.1 pc = .ok (.getfield 7, 3)) (hs : zSim X fr P (pc + 3) k) : zSim X fr P pc (xgfR 25 3 k) := sm_getfieldR (ci := 9) (n := 3) (C := RX9) (T := TX9) (N := 63) rfl rfl inz9 rfl (by decide) rfl (by rw [h1]; exact wd_1021) rfl dg hs
theorem gf_X9_35 [zGh] {d : Nat} {X : zM} {fr : Nat} {P : zP d} {pc : Nat} {k : zK d} (h1 : X.1 = RX9) (dg : decode X.2.1 pc = .ok (.getfield 35, 3)) (hs : zSim X fr P (pc + 3) k) : zSim X fr P pc (xgfR 25 13 k) := sm_getfieldR (ci := 9) (n := 13) (C := RX9) (T := TX9) (N := 63) rfl rfl inz9 rfl (by decide) rfl (by rw [h1]; exact wd_1031) rfl dg hs
theorem cr_X9_162 {X : zM} {fr frc pc mc ms : Nat} (h1 : X.1 = RX9) (hfr : frc + 1 ≤ fr) (dg : decode X.2.1 pc = .ok (.invokevirtual 162, 3)) : zRun X (RX9, cX9_grows, 5, none, "grows") yX9_grows fr frc pc 4 mc ms (fun ws As => ∃ (b : Nat) (As' : List Value) (q0 : Nat) (fs : List Value), As = .ref b :: As' ∧ ws[q0]? = some (b, .inr (9, fs))) := zrunV (n := 3) (ci := 9) rfl rfl wd_916 wd_14 (by rw [h1]; exact wd_913) wd_915 ws_54 (by decide) hfr (by decide) dg
theorem gf_X9_13 [zGh] {d : Nat} {X : zM} {fr : Nat} {P : zP d} {pc : Nat} {k : zK d} (h1 : X.1 = RX9) (dg : decode X.2.1 pc = .ok (.getfield 13, 3)) (hs : zSim X fr P (pc + 3) k) : zSim X fr P pc (xgfR 25 4 k) := sm_getfieldR (ci := 9) (n := 4) (C := RX9) (T := TX9) (N := 63) rfl rfl inz9 rfl (by decide) rfl (by rw [h1]; exact wd_1022) rfl dg hs
theorem gf_X9_153 [zGh] {d : Nat} {X : zM} {fr : Nat} {P : zP d} {pc : Nat} {k : zK d} (h1 : X.1 = RX9) (dg : decode X.2.1 pc = .ok (.getfield 153, 3)) (hs : zSim X fr P (pc + 3) k) : zSim X fr P pc (xgfI 25 2 k) := sm_getfieldI (ci := 9) (n := 2) (C := RX9) (T := TX9) (N := 63) rfl rfl inz9 rfl (by decide) rfl (by rw [h1]; exact wd_1020) rfl dg hs
theorem pf_X9_153 [zGh] {d : Nat} {X : zM} {fr : Nat} {P : zP d} {pc : Nat} {k : zK d} (h1 : X.1 = RX9) (dg : decode X.2.1 pc = .ok (.putfield 153, 3)) (hs : zSim X fr P (pc + 3) k) : zSim X fr P pc (xpfI 25 2 k) := sm_putI (ci := 9) (n := 2) (ty := tyX9 2) rfl (by decide) rfl rfl (zput (C := RX9) (T := TX9) (N := 63) (ty0 := tyX9) (ty := tyX9 2) inz9 tyX9_ok nmX9 rfl (by decide) (by rw [h1]; exact wd_1020) rfl rfl dg) hs
theorem pf_X9_166 [zGh] {d : Nat} {X : zM} {fr : Nat} {P : zP d} {pc : Nat} {k : zK d} (h1 : X.1 = RX9) (dg : decode X.2.1 pc = .ok (.putfield 166, 3)) (hs : zSim X fr P (pc + 3) k) : zSim X fr P pc (xpfI 25 12 k) := sm_putI (ci := 9) (n := 12) (ty := tyX9 12) rfl (by decide) rfl rfl (zput (C := RX9) (T := TX9) (N := 63) (ty0 := tyX9) (ty := tyX9 12) inz9 tyX9_ok nmX9 rfl (by decide) (by rw [h1]; exact wd_1030) rfl rfl dg) hs
theorem gf_X9_169 [zGh] {d : Nat} {X : zM} {fr : Nat} {P : zP d} {pc : Nat} {k : zK d} (h1 : X.1 = RX9) (dg : decode X.2.1 pc = .ok (.getfield 169, 3)) (hs : zSim X fr P (pc + 3) k) : zSim X fr P pc (xgfI 25 0 k) := sm_getfieldI (ci := 9) (n := 0) (C := RX9) (T := TX9) (N := 63) rfl rfl inz9 rfl (by decide) rfl (by rw [h1]; exact wd_1018) rfl dg hs
theorem pf_X9_172 [zGh] {d : Nat} {X : zM} {fr : Nat} {P : zP d} {pc : Nat} {k : zK d} (h1 : X.1 = RX9) (dg : decode X.2.1 pc = .ok (.putfield 172, 3)) (hs : zSim X fr P (pc + 3) k) : zSim X fr P pc (xpfI 25 11 k) := sm_putI (ci := 9) (n := 11) (ty := tyX9 11) rfl (by decide) rfl rfl (zput (C := RX9) (T := TX9) (N := 63) (ty0 := tyX9) (ty := tyX9 11) inz9 tyX9_ok nmX9 rfl (by decide) (by rw [h1]; exact wd_1029) rfl rfl dg) hs
theorem gf_X9_19 [zGh] {d : Nat} {X : zM} {fr : Nat} {P : zP d} {pc : Nat} {k : zK d} (h1 : X.1 = RX9) (dg : decode X.2.1 pc = .ok (.getfield 19, 3)) (hs : zSim X fr P (pc + 3) k) : zSim X fr P pc (xgfR 25 6 k) := sm_getfieldR (ci := 9) (n := 6) (C := RX9) (T := TX9) (N := 63) rfl rfl inz9 rfl (by decide) rfl (by rw [h1]; exact wd_1024) rfl dg hs
theorem gf_X9_26 [zGh] {d : Nat} {X : zM} {fr : Nat} {P : zP d} {pc : Nat} {k : zK d} (h1 : X.1 = RX9) (dg : decode X.2.1 pc = .ok (.getfield 26, 3)) (hs : zSim X fr P (pc + 3) k) : zSim X fr P pc (xgfR 25 8 k) := sm_getfieldR (ci := 9) (n := 8) (C := RX9) (T := TX9) (N := 63) rfl rfl inz9 rfl (by decide) rfl (by rw [h1]; exact wd_1026) rfl dg hs
theorem gf_X9_29 [zGh] {d : Nat} {X : zM} {fr : Nat} {P : zP d} {pc : Nat} {k : zK d} (h1 : X.1 = RX9) (dg : decode X.2.1 pc = .ok (.getfield 29, 3)) (hs : zSim X fr P (pc + 3) k) : zSim X fr P pc (xgfR 25 9 k) := sm_getfieldR (ci := 9) (n := 9) (C := RX9) (T := TX9) (N := 63) rfl rfl inz9 rfl (by decide) rfl (by rw [h1]; exact wd_1027) rfl dg hs
theorem gf_X9_22 [zGh] {d : Nat} {X : zM} {fr : Nat} {P : zP d} {pc : Nat} {k : zK d} (h1 : X.1 = RX9) (dg : decode X.2.1 pc = .ok (.getfield 22, 3)) (hs : zSim X fr P (pc + 3) k) : zSim X fr P pc (xgfR 25 7 k) := sm_getfieldR (ci := 9) (n := 7) (C := RX9) (T := TX9) (N := 63) rfl rfl inz9 rfl (by decide) rfl (by rw [h1]; exact wd_1025) rfl dg hs
theorem gf_X9_184 [zGh] {d : Nat} {X : zM} {fr : Nat} {P : zP d} {pc : Nat} {k : zK d} (h1 : X.1 = RX9) (dg : decode X.2.1 pc = .ok (.getfield 184, 3)) (hs : zSim X fr P (pc + 3) k) : zSim X fr P pc (xgfI 25 1 k) := sm_getfieldI (ci := 9) (n := 1) (C := RX9) (T := TX9) (N := 63) rfl rfl inz9 rfl (by decide) rfl (by rw [h1]; exact wd_1019) rfl dg hs
theorem gf_X9_16 [zGh] {d : Nat} {X : zM} {fr : Nat} {P : zP d} {pc : Nat} {k : zK d} (h1 : X.1 = RX9) (dg : decode X.2.1 pc = .ok (.getfield 16, 3)) (hs : zSim X fr P (pc + 3) k) : zSim X fr P pc (xgfR 25 5 k) := sm_getfieldR (ci := 9) (n := 5) (C := RX9) (T := TX9) (N := 63) rfl rfl inz9 rfl (by decide) rfl (by rw [h1]; exact wd_1023) rfl dg hs
theorem gf_X9_166 [zGh] {d : Nat} {X : zM} {fr : Nat} {P : zP d} {pc : Nat} {k : zK d} (h1 : X.1 = RX9) (dg : decode X.2.1 pc = .ok (.getfield 166, 3)) (hs : zSim X fr P (pc + 3) k) : zSim X fr P pc (xgfI 25 12 k) := sm_getfieldI (ci := 9) (n := 12) (C := RX9) (T := TX9) (N := 63) rfl rfl inz9 rfl (by decide) rfl (by rw [h1]; exact wd_1030) rfl dg hs
theorem gf_X9_32 [zGh] {d : Nat} {X : zM} {fr : Nat} {P : zP d} {pc : Nat} {k : zK d} (h1 : X.1 = RX9) (dg : decode X.2.1 pc = .ok (.getfield 32, 3)) (hs : zSim X fr P (pc + 3) k) : zSim X fr P pc (xgfR 25 10 k) := sm_getfieldR (ci := 9) (n := 10) (C := RX9) (T := TX9) (N := 63) rfl rfl inz9 rfl (by decide) rfl (by rw [h1]; exact wd_1028) rfl dg hs
theorem gf_X9_172 [zGh] {d : Nat} {X : zM} {fr : Nat} {P : zP d} {pc : Nat} {k : zK d} (h1 : X.1 = RX9) (dg : decode X.2.1 pc = .ok (.getfield 172, 3)) (hs : zSim X fr P (pc + 3) k) : zSim X fr P pc (xgfI 25 11 k) := sm_getfieldI (ci := 9) (n := 11) (C := RX9) (T := TX9) (N := 63) rfl rfl inz9 rfl (by decide) rfl (by rw [h1]; exact wd_1029) rfl dg hs
theorem cr_X9_187 {X : zM} {fr frc pc mc ms : Nat} (h1 : X.1 = RX9) (hfr : frc + 1 ≤ fr) (dg : decode X.2.1 pc = .ok (.invokestatic 187, 3)) : zRun X (RX9, cX9_one, 1, (some .int), "one") yX9_one fr frc pc 1 mc ms (fun _ _ => True) := zrunS (n := 1) wd_932 wd_14 (by rw [h1]; exact wd_930) wd_931 (by decide) hfr (by decide) dg
theorem cr_X9_175 {X : zM} {fr frc pc mc ms : Nat} (h1 : X.1 = RX9) (hfr : frc + 1 ≤ fr) (dg : decode X.2.1 pc = .ok (.invokevirtual 175, 3)) : zRun X (RX9, cX9_partOf, 3, (some .int), "partOf") yX9_partOf fr frc pc 3 mc ms (fun ws As => ∃ (b : Nat) (As' : List Value) (q0 : Nat) (fs : List Value), As = .ref b :: As' ∧ ws[q0]? = some (b, .inr (9, fs))) := zrunV (n := 2) (ci := 9) rfl rfl wd_925 wd_14 (by rw [h1]; exact wd_922) wd_924 ws_56 (by decide) hfr (by decide) dg
theorem cr_X9_181 {X : zM} {fr frc pc mc ms : Nat} (h1 : X.1 = RX9) (hfr : frc + 1 ≤ fr) (dg : decode X.2.1 pc = .ok (.invokestatic 181, 3)) : zRun X (RX9, cX9_gcd, 5, (some .int), "gcd") yX9_gcd fr frc pc 2 mc ms (fun _ _ => True) := zrunS (n := 2) wd_929 wd_14 (by rw [h1]; exact wd_927) wd_928 (by decide) hfr (by decide) dg
theorem cr_X9_191 {X : zM} {fr frc pc mc ms : Nat} (h1 : X.1 = RX9) (hfr : frc + 1 ≤ fr) (dg : decode X.2.1 pc = .ok (.invokevirtual 191, 3)) : zRun X (RX9, cX9_charOf, 9, (some .int), "charOf") yX9_charOf fr frc pc 4 mc ms (fun ws As => ∃ (b : Nat) (As' : List Value) (q0 : Nat) (fs : List Value), As = .ref b :: As' ∧ ws[q0]? = some (b, .inr (9, fs))) := zrunV (n := 3) (ci := 9) rfl rfl wd_944 wd_14 (by rw [h1]; exact wd_941) wd_943 ws_59 (by decide) hfr (by decide) dg
theorem cr_X9_195 {X : zM} {fr frc pc mc ms : Nat} (h1 : X.1 = RX9) (hfr : frc + 1 ≤ fr) (dg : decode X.2.1 pc = .ok (.invokestatic 195, 3)) : zRun X (RX9, cX9_bits, 3, (some .int), "bits") yX9_bits fr frc pc 1 mc ms (fun _ _ => True) := zrunS (n := 1) wd_947 wd_14 (by rw [h1]; exact wd_945) wd_946 (by decide) hfr (by decide) dg
theorem pf_X9_199 [zGh] {d : Nat} {X : zM} {fr : Nat} {P : zP d} {pc : Nat} {k : zK d} (h1 : X.1 = RX9) (dg : decode X.2.1 pc = .ok (.putfield 199, 3)) (hs : zSim X fr P (pc + 3) k) : zSim X fr P pc (xpfI 25 18 k) := sm_putI (ci := 9) (n := 18) (ty := tyX9 18) rfl (by decide) rfl rfl (zput (C := RX9) (T := TX9) (N := 63) (ty0 := tyX9) (ty := tyX9 18) inz9 tyX9_ok nmX9 rfl (by decide) (by rw [h1]; exact wd_1036) rfl rfl dg) hs
theorem cr_X9_202 {X : zM} {fr frc pc mc ms : Nat} (h1 : X.1 = RX9) (hfr : frc + 1 ≤ fr) (dg : decode X.2.1 pc = .ok (.invokevirtual 202, 3)) : zRun X (RX9, cX9_beadsOf, 4, (some .int), "beadsOf") yX9_beadsOf fr frc pc 2 mc ms (fun ws As => ∃ (b : Nat) (As' : List Value) (q0 : Nat) (fs : List Value), As = .ref b :: As' ∧ ws[q0]? = some (b, .inr (9, fs))) := zrunV (n := 1) (ci := 9) rfl rfl wd_940 wd_14 (by rw [h1]; exact wd_937) wd_939 ws_58 (by decide) hfr (by decide) dg
theorem gf_X9_41 [zGh] {d : Nat} {X : zM} {fr : Nat} {P : zP d} {pc : Nat} {k : zK d} (h1 : X.1 = RX9) (dg : decode X.2.1 pc = .ok (.getfield 41, 3)) (hs : zSim X fr P (pc + 3) k) : zSim X fr P pc (xgfR 25 15 k) := sm_getfieldR (ci := 9) (n := 15) (C := RX9) (T := TX9) (N := 63) rfl rfl inz9 rfl (by decide) rfl (by rw [h1]; exact wd_1033) rfl dg hs
theorem gf_X9_44 [zGh] {d : Nat} {X : zM} {fr : Nat} {P : zP d} {pc : Nat} {k : zK d} (h1 : X.1 = RX9) (dg : decode X.2.1 pc = .ok (.getfield 44, 3)) (hs : zSim X fr P (pc + 3) k) : zSim X fr P pc (xgfR 25 16 k) := sm_getfieldR (ci := 9) (n := 16) (C := RX9) (T := TX9) (N := 63) rfl rfl inz9 rfl (by decide) rfl (by rw [h1]; exact wd_1034) rfl dg hs
theorem gf_X9_47 [zGh] {d : Nat} {X : zM} {fr : Nat} {P : zP d} {pc : Nat} {k : zK d} (h1 : X.1 = RX9) (dg : decode X.2.1 pc = .ok (.getfield 47, 3)) (hs : zSim X fr P (pc + 3) k) : zSim X fr P pc (xgfR 25 17 k) := sm_getfieldR (ci := 9) (n := 17) (C := RX9) (T := TX9) (N := 63) rfl rfl inz9 rfl (by decide) rfl (by rw [h1]; exact wd_1035) rfl dg hs
theorem gf_X9_199 [zGh] {d : Nat} {X : zM} {fr : Nat} {P : zP d} {pc : Nat} {k : zK d} (h1 : X.1 = RX9) (dg : decode X.2.1 pc = .ok (.getfield 199, 3)) (hs : zSim X fr P (pc + 3) k) : zSim X fr P pc (xgfI 25 18 k) := sm_getfieldI (ci := 9) (n := 18) (C := RX9) (T := TX9) (N := 63) rfl rfl inz9 rfl (by decide) rfl (by rw [h1]; exact wd_1036) rfl dg hs
theorem gf_X9_50 [zGh] {d : Nat} {X : zM} {fr : Nat} {P : zP d} {pc : Nat} {k : zK d} (h1 : X.1 = RX9) (dg : decode X.2.1 pc = .ok (.getfield 50, 3)) (hs : zSim X fr P (pc + 3) k) : zSim X fr P pc (xgfR 25 19 k) := sm_getfieldR (ci := 9) (n := 19) (C := RX9) (T := TX9) (N := 63) rfl rfl inz9 rfl (by decide) rfl (by rw [h1]; exact wd_1037) rfl dg hs
theorem gf_X9_205 [zGh] {d : Nat} {X : zM} {fr : Nat} {P : zP d} {pc : Nat} {k : zK d} (h1 : X.1 = RX9) (dg : decode X.2.1 pc = .ok (.getfield 205, 3)) (hs : zSim X fr P (pc + 3) k) : zSim X fr P pc (xgfI 25 25 k) := sm_getfieldI (ci := 9) (n := 25) (C := RX9) (T := TX9) (N := 63) rfl rfl inz9 rfl (by decide) rfl (by rw [h1]; exact wd_1043) rfl dg hs
theorem cr_X9_211 {X : zM} {fr frc pc mc ms : Nat} (h1 : X.1 = RX9) (hfr : frc + 1 ≤ fr) (dg : decode X.2.1 pc = .ok (.invokevirtual 211, 3)) : zRun X (RX9, cX9_rowOf, 4, (some .int), "rowOf") yX9_rowOf fr frc pc 2 mc ms (fun ws As => ∃ (b : Nat) (As' : List Value) (q0 : Nat) (fs : List Value), As = .ref b :: As' ∧ ws[q0]? = some (b, .inr (9, fs))) := zrunV (n := 1) (ci := 9) rfl rfl wd_955 wd_14 (by rw [h1]; exact wd_952) wd_954 ws_61 (by decide) hfr (by decide) dg
theorem cr_X9_214 {X : zM} {fr frc pc mc ms : Nat} (h1 : X.1 = RX9) (hfr : frc + 1 ≤ fr) (dg : decode X.2.1 pc = .ok (.invokevirtual 214, 3)) : zRun X (RX9, cX9_cellAt, 5, (some .int), "cellAt") yX9_cellAt fr frc pc 3 mc ms (fun ws As => ∃ (b : Nat) (As' : List Value) (q0 : Nat) (fs : List Value), As = .ref b :: As' ∧ ws[q0]? = some (b, .inr (9, fs))) := zrunV (n := 2) (ci := 9) rfl rfl wd_959 wd_14 (by rw [h1]; exact wd_956) wd_958 ws_62 (by decide) hfr (by decide) dg
theorem gf_X9_62 [zGh] {d : Nat} {X : zM} {fr : Nat} {P : zP d} {pc : Nat} {k : zK d} (h1 : X.1 = RX9) (dg : decode X.2.1 pc = .ok (.getfield 62, 3)) (hs : zSim X fr P (pc + 3) k) : zSim X fr P pc (xgfR 25 24 k) := sm_getfieldR (ci := 9) (n := 24) (C := RX9) (T := TX9) (N := 63) rfl rfl inz9 rfl (by decide) rfl (by rw [h1]; exact wd_1042) rfl dg hs
theorem cr_X9_217 {X : zM} {fr frc pc mc ms : Nat} (h1 : X.1 = RX9) (hfr : frc + 1 ≤ fr) (dg : decode X.2.1 pc = .ok (.invokevirtual 217, 3)) : zRun X (RX9, cX9_fills, 6, none, "fills") yX9_fills fr frc pc 3 mc ms (fun ws As => ∃ (b : Nat) (As' : List Value) (q0 : Nat) (fs : List Value), As = .ref b :: As' ∧ ws[q0]? = some (b, .inr (9, fs))) := zrunV (n := 2) (ci := 9) rfl rfl wd_951 wd_14 (by rw [h1]; exact wd_948) wd_950 ws_60 (by decide) hfr (by decide) dg
theorem gf_X9_208 [zGh] {d : Nat} {X : zM} {fr : Nat} {P : zP d} {pc : Nat} {k : zK d} (h1 : X.1 = RX9) (dg : decode X.2.1 pc = .ok (.getfield 208, 3)) (hs : zSim X fr P (pc + 3) k) : zSim X fr P pc (xgfI 25 23 k) := sm_getfieldI (ci := 9) (n := 23) (C := RX9) (T := TX9) (N := 63) rfl rfl inz9 rfl (by decide) rfl (by rw [h1]; exact wd_1041) rfl dg hs
theorem pf_X9_208 [zGh] {d : Nat} {X : zM} {fr : Nat} {P : zP d} {pc : Nat} {k : zK d} (h1 : X.1 = RX9) (dg : decode X.2.1 pc = .ok (.putfield 208, 3)) (hs : zSim X fr P (pc + 3) k) : zSim X fr P pc (xpfI 25 23 k) := sm_putI (ci := 9) (n := 23) (ty := tyX9 23) rfl (by decide) rfl rfl (zput (C := RX9) (T := TX9) (N := 63) (ty0 := tyX9) (ty := tyX9 23) inz9 tyX9_ok nmX9 rfl (by decide) (by rw [h1]; exact wd_1041) rfl rfl dg) hs
theorem gf_X9_59 [zGh] {d : Nat} {X : zM} {fr : Nat} {P : zP d} {pc : Nat} {k : zK d} (h1 : X.1 = RX9) (dg : decode X.2.1 pc = .ok (.getfield 59, 3)) (hs : zSim X fr P (pc + 3) k) : zSim X fr P pc (xgfR 25 22 k) := sm_getfieldR (ci := 9) (n := 22) (C := RX9) (T := TX9) (N := 63) rfl rfl inz9 rfl (by decide) rfl (by rw [h1]; exact wd_1040) rfl dg hs
theorem gf_X9_66 [zGh] {d : Nat} {X : zM} {fr : Nat} {P : zP d} {pc : Nat} {k : zK d} (h1 : X.1 = RX9) (dg : decode X.2.1 pc = .ok (.getfield 66, 3)) (hs : zSim X fr P (pc + 3) k) : zSim X fr P pc (xgfR 25 26 k) := sm_getfieldR (ci := 9) (n := 26) (C := RX9) (T := TX9) (N := 63) rfl rfl inz9 rfl (by decide) rfl (by rw [h1]; exact wd_1044) rfl dg hs
theorem gf_X9_69 [zGh] {d : Nat} {X : zM} {fr : Nat} {P : zP d} {pc : Nat} {k : zK d} (h1 : X.1 = RX9) (dg : decode X.2.1 pc = .ok (.getfield 69, 3)) (hs : zSim X fr P (pc + 3) k) : zSim X fr P pc (xgfR 25 27 k) := sm_getfieldR (ci := 9) (n := 27) (C := RX9) (T := TX9) (N := 63) rfl rfl inz9 rfl (by decide) rfl (by rw [h1]; exact wd_1045) rfl dg hs
theorem gf_X9_220 [zGh] {d : Nat} {X : zM} {fr : Nat} {P : zP d} {pc : Nat} {k : zK d} (h1 : X.1 = RX9) (dg : decode X.2.1 pc = .ok (.getfield 220, 3)) (hs : zSim X fr P (pc + 3) k) : zSim X fr P pc (xgfI 25 28 k) := sm_getfieldI (ci := 9) (n := 28) (C := RX9) (T := TX9) (N := 63) rfl rfl inz9 rfl (by decide) rfl (by rw [h1]; exact wd_1046) rfl dg hs
theorem pf_X9_220 [zGh] {d : Nat} {X : zM} {fr : Nat} {P : zP d} {pc : Nat} {k : zK d} (h1 : X.1 = RX9) (dg : decode X.2.1 pc = .ok (.putfield 220, 3)) (hs : zSim X fr P (pc + 3) k) : zSim X fr P pc (xpfI 25 28 k) := sm_putI (ci := 9) (n := 28) (ty := tyX9 28) rfl (by decide) rfl rfl (zput (C := RX9) (T := TX9) (N := 63) (ty0 := tyX9) (ty := tyX9 28) inz9 tyX9_ok nmX9 rfl (by decide) (by rw [h1]; exact wd_1046) rfl rfl dg) hs
theorem gf_X9_81 [zGh] {d : Nat} {X : zM} {fr : Nat} {P : zP d} {pc : Nat} {k : zK d} (h1 : X.1 = RX9) (dg : decode X.2.1 pc = .ok (.getfield 81, 3)) (hs : zSim X fr P (pc + 3) k) : zSim X fr P pc (xgfR 25 32 k) := sm_getfieldR (ci := 9) (n := 32) (C := RX9) (T := TX9) (N := 63) rfl rfl inz9 rfl (by decide) rfl (by rw [h1]; exact wd_1050) rfl dg hs
theorem gf_X9_78 [zGh] {d : Nat} {X : zM} {fr : Nat} {P : zP d} {pc : Nat} {k : zK d} (h1 : X.1 = RX9) (dg : decode X.2.1 pc = .ok (.getfield 78, 3)) (hs : zSim X fr P (pc + 3) k) : zSim X fr P pc (xgfR 25 31 k) := sm_getfieldR (ci := 9) (n := 31) (C := RX9) (T := TX9) (N := 63) rfl rfl inz9 rfl (by decide) rfl (by rw [h1]; exact wd_1049) rfl dg hs
theorem cr_X9_231 {X : zM} {fr frc pc mc ms : Nat} (h1 : X.1 = RX9) (hfr : frc + 1 ≤ fr) (dg : decode X.2.1 pc = .ok (.invokevirtual 231, 3)) : zRun X (RX9, cX9_swaps, 4, none, "swaps") yX9_swaps fr frc pc 3 mc ms (fun ws As => ∃ (b : Nat) (As' : List Value) (q0 : Nat) (fs : List Value), As = .ref b :: As' ∧ ws[q0]? = some (b, .inr (9, fs))) := zrunV (n := 2) (ci := 9) rfl rfl wd_983 wd_14 (by rw [h1]; exact wd_980) wd_982 ws_68 (by decide) hfr (by decide) dg
theorem cr_X9_227 {X : zM} {fr frc pc mc ms : Nat} (h1 : X.1 = RX9) (hfr : frc + 1 ≤ fr) (dg : decode X.2.1 pc = .ok (.invokevirtual 227, 3)) : zRun X (RX9, cX9_spreads, 8, none, "spreads") yX9_spreads fr frc pc 6 mc ms (fun ws As => ∃ (b : Nat) (As' : List Value) (q0 : Nat) (fs : List Value), As = .ref b :: As' ∧ ws[q0]? = some (b, .inr (9, fs))) := zrunV (n := 5) (ci := 9) rfl rfl wd_975 wd_14 (by rw [h1]; exact wd_972) wd_974 ws_66 (by decide) hfr (by decide) dg
theorem cr_X9_223 {X : zM} {fr frc pc mc ms : Nat} (h1 : X.1 = RX9) (hfr : frc + 1 ≤ fr) (dg : decode X.2.1 pc = .ok (.invokevirtual 223, 3)) : zRun X (RX9, cX9_placeNow, 3, (some .int), "placeNow") yX9_placeNow fr frc pc 1 mc ms (fun ws As => ∃ (b : Nat) (As' : List Value) (q0 : Nat) (fs : List Value), As = .ref b :: As' ∧ ws[q0]? = some (b, .inr (9, fs))) := zrunV (n := 0) (ci := 9) rfl rfl wd_979 wd_14 (by rw [h1]; exact wd_976) wd_978 ws_67 (by decide) hfr (by decide) dg
theorem gf_X9_56 [zGh] {d : Nat} {X : zM} {fr : Nat} {P : zP d} {pc : Nat} {k : zK d} (h1 : X.1 = RX9) (dg : decode X.2.1 pc = .ok (.getfield 56, 3)) (hs : zSim X fr P (pc + 3) k) : zSim X fr P pc (xgfR 25 21 k) := sm_getfieldR (ci := 9) (n := 21) (C := RX9) (T := TX9) (N := 63) rfl rfl inz9 rfl (by decide) rfl (by rw [h1]; exact wd_1039) rfl dg hs
theorem gf_X9_84 [zGh] {d : Nat} {X : zM} {fr : Nat} {P : zP d} {pc : Nat} {k : zK d} (h1 : X.1 = RX9) (dg : decode X.2.1 pc = .ok (.getfield 84, 3)) (hs : zSim X fr P (pc + 3) k) : zSim X fr P pc (xgfR 25 33 k) := sm_getfieldR (ci := 9) (n := 33) (C := RX9) (T := TX9) (N := 63) rfl rfl inz9 rfl (by decide) rfl (by rw [h1]; exact wd_1051) rfl dg hs
theorem gf_X9_53 [zGh] {d : Nat} {X : zM} {fr : Nat} {P : zP d} {pc : Nat} {k : zK d} (h1 : X.1 = RX9) (dg : decode X.2.1 pc = .ok (.getfield 53, 3)) (hs : zSim X fr P (pc + 3) k) : zSim X fr P pc (xgfR 25 20 k) := sm_getfieldR (ci := 9) (n := 20) (C := RX9) (T := TX9) (N := 63) rfl rfl inz9 rfl (by decide) rfl (by rw [h1]; exact wd_1038) rfl dg hs
theorem pf_X9_205 [zGh] {d : Nat} {X : zM} {fr : Nat} {P : zP d} {pc : Nat} {k : zK d} (h1 : X.1 = RX9) (dg : decode X.2.1 pc = .ok (.putfield 205, 3)) (hs : zSim X fr P (pc + 3) k) : zSim X fr P pc (xpfI 25 25 k) := sm_putI (ci := 9) (n := 25) (ty := tyX9 25) rfl (by decide) rfl rfl (zput (C := RX9) (T := TX9) (N := 63) (ty0 := tyX9) (ty := tyX9 25) inz9 tyX9_ok nmX9 rfl (by decide) (by rw [h1]; exact wd_1043) rfl rfl dg) hs
theorem gf_X9_72 [zGh] {d : Nat} {X : zM} {fr : Nat} {P : zP d} {pc : Nat} {k : zK d} (h1 : X.1 = RX9) (dg : decode X.2.1 pc = .ok (.getfield 72, 3)) (hs : zSim X fr P (pc + 3) k) : zSim X fr P pc (xgfR 25 29 k) := sm_getfieldR (ci := 9) (n := 29) (C := RX9) (T := TX9) (N := 63) rfl rfl inz9 rfl (by decide) rfl (by rw [h1]; exact wd_1047) rfl dg hs
theorem cr_X9_234 {X : zM} {fr frc pc mc ms : Nat} (h1 : X.1 = RX9) (hfr : frc + 1 ≤ fr) (dg : decode X.2.1 pc = .ok (.invokevirtual 234, 3)) : zRun X (RX9, cX9_sumsOf, 4, none, "sumsOf") yX9_sumsOf fr frc pc 2 mc ms (fun ws As => ∃ (b : Nat) (As' : List Value) (q0 : Nat) (fs : List Value), As = .ref b :: As' ∧ ws[q0]? = some (b, .inr (9, fs))) := zrunV (n := 1) (ci := 9) rfl rfl wd_971 wd_14 (by rw [h1]; exact wd_968) wd_970 ws_65 (by decide) hfr (by decide) dg
theorem gf_X9_87 [zGh] {d : Nat} {X : zM} {fr : Nat} {P : zP d} {pc : Nat} {k : zK d} (h1 : X.1 = RX9) (dg : decode X.2.1 pc = .ok (.getfield 87, 3)) (hs : zSim X fr P (pc + 3) k) : zSim X fr P pc (xgfR 25 34 k) := sm_getfieldR (ci := 9) (n := 34) (C := RX9) (T := TX9) (N := 63) rfl rfl inz9 rfl (by decide) rfl (by rw [h1]; exact wd_1052) rfl dg hs
theorem cr_X9_238 {X : zM} {fr frc pc mc ms : Nat} (h1 : X.1 = RX9) (hfr : frc + 1 ≤ fr) (dg : decode X.2.1 pc = .ok (.invokestatic 238, 3)) : zRun X (RX9, cX9_power, 8, (some .int), "power") yX9_power fr frc pc 3 mc ms (fun _ _ => True) := zrunS (n := 3) wd_994 wd_14 (by rw [h1]; exact wd_992) wd_993 (by decide) hfr (by decide) dg
theorem cr_X9_241 {X : zM} {fr frc pc mc ms : Nat} (h1 : X.1 = RX9) (hfr : frc + 1 ≤ fr) (dg : decode X.2.1 pc = .ok (.invokevirtual 241, 3)) : zRun X (RX9, cX9_begins, 3, none, "begins") yX9_begins fr frc pc 2 mc ms (fun ws As => ∃ (b : Nat) (As' : List Value) (q0 : Nat) (fs : List Value), As = .ref b :: As' ∧ ws[q0]? = some (b, .inr (9, fs))) := zrunV (n := 1) (ci := 9) rfl rfl wd_967 wd_14 (by rw [h1]; exact wd_964) wd_966 ws_64 (by decide) hfr (by decide) dg
theorem gf_X9_93 [zGh] {d : Nat} {X : zM} {fr : Nat} {P : zP d} {pc : Nat} {k : zK d} (h1 : X.1 = RX9) (dg : decode X.2.1 pc = .ok (.getfield 93, 3)) (hs : zSim X fr P (pc + 3) k) : zSim X fr P pc (xgfR 25 36 k) := sm_getfieldR (ci := 9) (n := 36) (C := RX9) (T := TX9) (N := 63) rfl rfl inz9 rfl (by decide) rfl (by rw [h1]; exact wd_1054) rfl dg hs
theorem cr_X9_249 {X : zM} {fr frc pc mc ms : Nat} (h1 : X.1 = RX9) (hfr : frc + 1 ≤ fr) (dg : decode X.2.1 pc = .ok (.invokevirtual 249, 3)) : zRun X (RX9, cX9_rankOf, 9, (some .int), "rankOf") yX9_rankOf fr frc pc 2 mc ms (fun ws As => ∃ (b : Nat) (As' : List Value) (q0 : Nat) (fs : List Value), As = .ref b :: As' ∧ ws[q0]? = some (b, .inr (9, fs))) := zrunV (n := 1) (ci := 9) rfl rfl wd_991 wd_14 (by rw [h1]; exact wd_988) wd_990 ws_70 (by decide) hfr (by decide) dg
theorem cr_X9_245 {X : zM} {fr frc pc mc ms : Nat} (h1 : X.1 = RX9) (hfr : frc + 1 ≤ fr) (dg : decode X.2.1 pc = .ok (.invokevirtual 245, 3)) : zRun X (RX9, cX9_form, 7, (some .int), "form") yX9_form fr frc pc 5 mc ms (fun ws As => ∃ (b : Nat) (As' : List Value) (q0 : Nat) (fs : List Value), As = .ref b :: As' ∧ ws[q0]? = some (b, .inr (9, fs))) := zrunV (n := 4) (ci := 9) rfl rfl wd_987 wd_14 (by rw [h1]; exact wd_984) wd_986 ws_69 (by decide) hfr (by decide) dg
theorem gf_X9_90 [zGh] {d : Nat} {X : zM} {fr : Nat} {P : zP d} {pc : Nat} {k : zK d} (h1 : X.1 = RX9) (dg : decode X.2.1 pc = .ok (.getfield 90, 3)) (hs : zSim X fr P (pc + 3) k) : zSim X fr P pc (xgfR 25 35 k) := sm_getfieldR (ci := 9) (n := 35) (C := RX9) (T := TX9) (N := 63) rfl rfl inz9 rfl (by decide) rfl (by rw [h1]; exact wd_1053) rfl dg hs
theorem cr_X9_252 {X : zM} {fr frc pc mc ms : Nat} (h1 : X.1 = RX9) (hfr : frc + 1 ≤ fr) (dg : decode X.2.1 pc = .ok (.invokevirtual 252, 3)) : zRun X (RX9, cX9_moves, 7, none, "moves") yX9_moves fr frc pc 3 mc ms (fun ws As => ∃ (b : Nat) (As' : List Value) (q0 : Nat) (fs : List Value), As = .ref b :: As' ∧ ws[q0]? = some (b, .inr (9, fs))) := zrunV (n := 2) (ci := 9) rfl rfl wd_1009 wd_14 (by rw [h1]; exact wd_1006) wd_1008 ws_73 (by decide) hfr (by decide) dg
theorem gf_X9_75 [zGh] {d : Nat} {X : zM} {fr : Nat} {P : zP d} {pc : Nat} {k : zK d} (h1 : X.1 = RX9) (dg : decode X.2.1 pc = .ok (.getfield 75, 3)) (hs : zSim X fr P (pc + 3) k) : zSim X fr P pc (xgfR 25 30 k) := sm_getfieldR (ci := 9) (n := 30) (C := RX9) (T := TX9) (N := 63) rfl rfl inz9 rfl (by decide) rfl (by rw [h1]; exact wd_1048) rfl dg hs
theorem cr_X9_261 {X : zM} {fr frc pc mc ms : Nat} (h1 : X.1 = RX9) (hfr : frc + 1 ≤ fr) (dg : decode X.2.1 pc = .ok (.invokestatic 261, 3)) : zRun X (RX9, cX9_units, 1, (some .int), "units") yX9_units fr frc pc 1 mc ms (fun _ _ => True) := zrunS (n := 1) wd_1012 wd_14 (by rw [h1]; exact wd_1010) wd_1011 (by decide) hfr (by decide) dg
theorem cr_X9_255 {X : zM} {fr frc pc mc ms : Nat} (h1 : X.1 = RX9) (hfr : frc + 1 ≤ fr) (dg : decode X.2.1 pc = .ok (.invokestatic 255, 3)) : zRun X (RX9, cX9_mobius, 1, (some .int), "mobius") yX9_mobius fr frc pc 1 mc ms (fun _ _ => True) := zrunS (n := 1) wd_1001 wd_14 (by rw [h1]; exact wd_999) wd_1000 (by decide) hfr (by decide) dg
theorem cr_X9_258 {X : zM} {fr frc pc mc ms : Nat} (h1 : X.1 = RX9) (hfr : frc + 1 ≤ fr) (dg : decode X.2.1 pc = .ok (.invokevirtual 258, 3)) : zRun X (RX9, cX9_fixed, 6, (some .int), "fixed") yX9_fixed fr frc pc 3 mc ms (fun ws As => ∃ (b : Nat) (As' : List Value) (q0 : Nat) (fs : List Value), As = .ref b :: As' ∧ ws[q0]? = some (b, .inr (9, fs))) := zrunV (n := 2) (ci := 9) rfl rfl wd_1005 wd_14 (by rw [h1]; exact wd_1002) wd_1004 ws_72 (by decide) hfr (by decide) dg
theorem gf_X9_102 [zGh] {d : Nat} {X : zM} {fr : Nat} {P : zP d} {pc : Nat} {k : zK d} (h1 : X.1 = RX9) (dg : decode X.2.1 pc = .ok (.getfield 102, 3)) (hs : zSim X fr P (pc + 3) k) : zSim X fr P pc (xgfR 25 39 k) := sm_getfieldR (ci := 9) (n := 39) (C := RX9) (T := TX9) (N := 63) rfl rfl inz9 rfl (by decide) rfl (by rw [h1]; exact wd_1057) rfl dg hs
theorem gf_X9_99 [zGh] {d : Nat} {X : zM} {fr : Nat} {P : zP d} {pc : Nat} {k : zK d} (h1 : X.1 = RX9) (dg : decode X.2.1 pc = .ok (.getfield 99, 3)) (hs : zSim X fr P (pc + 3) k) : zSim X fr P pc (xgfR 25 38 k) := sm_getfieldR (ci := 9) (n := 38) (C := RX9) (T := TX9) (N := 63) rfl rfl inz9 rfl (by decide) rfl (by rw [h1]; exact wd_1056) rfl dg hs
theorem gf_X9_38 [zGh] {d : Nat} {X : zM} {fr : Nat} {P : zP d} {pc : Nat} {k : zK d} (h1 : X.1 = RX9) (dg : decode X.2.1 pc = .ok (.getfield 38, 3)) (hs : zSim X fr P (pc + 3) k) : zSim X fr P pc (xgfR 25 14 k) := sm_getfieldR (ci := 9) (n := 14) (C := RX9) (T := TX9) (N := 63) rfl rfl inz9 rfl (by decide) rfl (by rw [h1]; exact wd_1032) rfl dg hs
theorem gf_X9_96 [zGh] {d : Nat} {X : zM} {fr : Nat} {P : zP d} {pc : Nat} {k : zK d} (h1 : X.1 = RX9) (dg : decode X.2.1 pc = .ok (.getfield 96, 3)) (hs : zSim X fr P (pc + 3) k) : zSim X fr P pc (xgfR 25 37 k) := sm_getfieldR (ci := 9) (n := 37) (C := RX9) (T := TX9) (N := 63) rfl rfl inz9 rfl (by decide) rfl (by rw [h1]; exact wd_1055) rfl dg hs
theorem pf_X9_169 [zGh] {d : Nat} {X : zM} {fr : Nat} {P : zP d} {pc : Nat} {k : zK d} (h1 : X.1 = RX9) (dg : decode X.2.1 pc = .ok (.putfield 169, 3)) (hs : zSim X fr P (pc + 3) k) : zSim X fr P pc (xpfI 25 0 k) := sm_putI (ci := 9) (n := 0) (ty := tyX9 0) rfl (by decide) rfl rfl (zput (C := RX9) (T := TX9) (N := 63) (ty0 := tyX9) (ty := tyX9 0) inz9 tyX9_ok nmX9 rfl (by decide) (by rw [h1]; exact wd_1018) rfl rfl dg) hs
theorem pf_X9_184 [zGh] {d : Nat} {X : zM} {fr : Nat} {P : zP d} {pc : Nat} {k : zK d} (h1 : X.1 = RX9) (dg : decode X.2.1 pc = .ok (.putfield 184, 3)) (hs : zSim X fr P (pc + 3) k) : zSim X fr P pc (xpfI 25 1 k) := sm_putI (ci := 9) (n := 1) (ty := tyX9 1) rfl (by decide) rfl rfl (zput (C := RX9) (T := TX9) (N := 63) (ty0 := tyX9) (ty := tyX9 1) inz9 tyX9_ok nmX9 rfl (by decide) (by rw [h1]; exact wd_1019) rfl rfl dg) hs
theorem cr_X9_266 {X : zM} {fr frc pc mc ms : Nat} (h1 : X.1 = RX9) (hfr : frc + 1 ≤ fr) (dg : decode X.2.1 pc = .ok (.invokevirtual 266, 3)) : zRun X (RX9, cX9_classes, 7, none, "classes") yX9_classes fr frc pc 1 mc ms (fun ws As => ∃ (b : Nat) (As' : List Value) (q0 : Nat) (fs : List Value), As = .ref b :: As' ∧ ws[q0]? = some (b, .inr (9, fs))) := zrunV (n := 0) (ci := 9) rfl rfl wd_921 wd_14 (by rw [h1]; exact wd_918) wd_920 ws_55 (by decide) hfr (by decide) dg
theorem cr_X9_269 {X : zM} {fr frc pc mc ms : Nat} (h1 : X.1 = RX9) (hfr : frc + 1 ≤ fr) (dg : decode X.2.1 pc = .ok (.invokevirtual 269, 3)) : zRun X (RX9, cX9_cores, 5, none, "cores") yX9_cores fr frc pc 1 mc ms (fun ws As => ∃ (b : Nat) (As' : List Value) (q0 : Nat) (fs : List Value), As = .ref b :: As' ∧ ws[q0]? = some (b, .inr (9, fs))) := zrunV (n := 0) (ci := 9) rfl rfl wd_936 wd_14 (by rw [h1]; exact wd_933) wd_935 ws_57 (by decide) hfr (by decide) dg
theorem cr_X9_278 {X : zM} {fr frc pc mc ms : Nat} (h1 : X.1 = RX9) (hfr : frc + 1 ≤ fr) (dg : decode X.2.1 pc = .ok (.invokevirtual 278, 3)) : zRun X (RX9, cX9_decomposes, 8, none, "decomposes") yX9_decomposes fr frc pc 1 mc ms (fun ws As => ∃ (b : Nat) (As' : List Value) (q0 : Nat) (fs : List Value), As = .ref b :: As' ∧ ws[q0]? = some (b, .inr (9, fs))) := zrunV (n := 0) (ci := 9) rfl rfl wd_1016 wd_14 (by rw [h1]; exact wd_1013) wd_1015 ws_74 (by decide) hfr (by decide) dg
theorem gf_X9_115 [zGh] {d : Nat} {X : zM} {fr : Nat} {P : zP d} {pc : Nat} {k : zK d} (h1 : X.1 = RX9) (dg : decode X.2.1 pc = .ok (.getfield 115, 3)) (hs : zSim X fr P (pc + 3) k) : zSim X fr P pc (xgfR 25 43 k) := sm_getfieldR (ci := 9) (n := 43) (C := RX9) (T := TX9) (N := 63) rfl rfl inz9 rfl (by decide) rfl (by rw [h1]; exact wd_1061) rfl dg hs
theorem gf_X9_105 [zGh] {d : Nat} {X : zM} {fr : Nat} {P : zP d} {pc : Nat} {k : zK d} (h1 : X.1 = RX9) (dg : decode X.2.1 pc = .ok (.getfield 105, 3)) (hs : zSim X fr P (pc + 3) k) : zSim X fr P pc (xgfR 25 40 k) := sm_getfieldR (ci := 9) (n := 40) (C := RX9) (T := TX9) (N := 63) rfl rfl inz9 rfl (by decide) rfl (by rw [h1]; exact wd_1058) rfl dg hs
theorem cr_X9_272 {X : zM} {fr frc pc mc ms : Nat} (h1 : X.1 = RX9) (hfr : frc + 1 ≤ fr) (dg : decode X.2.1 pc = .ok (.invokevirtual 272, 3)) : zRun X (RX9, cX9_forms, 5, none, "forms") yX9_forms fr frc pc 2 mc ms (fun ws As => ∃ (b : Nat) (As' : List Value) (q0 : Nat) (fs : List Value), As = .ref b :: As' ∧ ws[q0]? = some (b, .inr (9, fs))) := zrunV (n := 1) (ci := 9) rfl rfl wd_963 wd_14 (by rw [h1]; exact wd_960) wd_962 ws_63 (by decide) hfr (by decide) dg
theorem cr_X9_275 {X : zM} {fr frc pc mc ms : Nat} (h1 : X.1 = RX9) (hfr : frc + 1 ≤ fr) (dg : decode X.2.1 pc = .ok (.invokevirtual 275, 3)) : zRun X (RX9, cX9_modularOf, 6, (some .int), "modularOf") yX9_modularOf fr frc pc 2 mc ms (fun ws As => ∃ (b : Nat) (As' : List Value) (q0 : Nat) (fs : List Value), As = .ref b :: As' ∧ ws[q0]? = some (b, .inr (9, fs))) := zrunV (n := 1) (ci := 9) rfl rfl wd_998 wd_14 (by rw [h1]; exact wd_995) wd_997 ws_71 (by decide) hfr (by decide) dg
theorem pf_X9_7 [zGh] {d : Nat} {X : zM} {fr : Nat} {P : zP d} {pc : Nat} {k : zK d} (h1 : X.1 = RX9) (h2 : X.2.2.2.2 = "<init>") (dg : decode X.2.1 pc = .ok (.putfield 7, 3)) (hs : zSim X fr P (pc + 3) k) : zSim X fr P pc (xpfR 25 3 k) := sm_putR (ci := 9) (n := 3) (ty := tyX9 3) rfl (by decide) rfl rfl (zputF (C := RX9) (T := TX9) (N := 63) (ty0 := tyX9) (ty := tyX9 3) inz9 tyX9_ok nmX9 rfl (by decide) (by rw [h1]; exact wd_1021) rfl rfl h2 (by rw [h1]; rfl) dg) hs
theorem pf_X9_13 [zGh] {d : Nat} {X : zM} {fr : Nat} {P : zP d} {pc : Nat} {k : zK d} (h1 : X.1 = RX9) (h2 : X.2.2.2.2 = "<init>") (dg : decode X.2.1 pc = .ok (.putfield 13, 3)) (hs : zSim X fr P (pc + 3) k) : zSim X fr P pc (xpfR 25 4 k) := sm_putR (ci := 9) (n := 4) (ty := tyX9 4) rfl (by decide) rfl rfl (zputF (C := RX9) (T := TX9) (N := 63) (ty0 := tyX9) (ty := tyX9 4) inz9 tyX9_ok nmX9 rfl (by decide) (by rw [h1]; exact wd_1022) rfl rfl h2 (by rw [h1]; rfl) dg) hs
theorem pf_X9_16 [zGh] {d : Nat} {X : zM} {fr : Nat} {P : zP d} {pc : Nat} {k : zK d} (h1 : X.1 = RX9) (h2 : X.2.2.2.2 = "<init>") (dg : decode X.2.1 pc = .ok (.putfield 16, 3)) (hs : zSim X fr P (pc + 3) k) : zSim X fr P pc (xpfR 25 5 k) := sm_putR (ci := 9) (n := 5) (ty := tyX9 5) rfl (by decide) rfl rfl (zputF (C := RX9) (T := TX9) (N := 63) (ty0 := tyX9) (ty := tyX9 5) inz9 tyX9_ok nmX9 rfl (by decide) (by rw [h1]; exact wd_1023) rfl rfl h2 (by rw [h1]; rfl) dg) hs
theorem pf_X9_19 [zGh] {d : Nat} {X : zM} {fr : Nat} {P : zP d} {pc : Nat} {k : zK d} (h1 : X.1 = RX9) (h2 : X.2.2.2.2 = "<init>") (dg : decode X.2.1 pc = .ok (.putfield 19, 3)) (hs : zSim X fr P (pc + 3) k) : zSim X fr P pc (xpfR 25 6 k) := sm_putR (ci := 9) (n := 6) (ty := tyX9 6) rfl (by decide) rfl rfl (zputF (C := RX9) (T := TX9) (N := 63) (ty0 := tyX9) (ty := tyX9 6) inz9 tyX9_ok nmX9 rfl (by decide) (by rw [h1]; exact wd_1024) rfl rfl h2 (by rw [h1]; rfl) dg) hs
theorem pf_X9_22 [zGh] {d : Nat} {X : zM} {fr : Nat} {P : zP d} {pc : Nat} {k : zK d} (h1 : X.1 = RX9) (h2 : X.2.2.2.2 = "<init>") (dg : decode X.2.1 pc = .ok (.putfield 22, 3)) (hs : zSim X fr P (pc + 3) k) : zSim X fr P pc (xpfR 25 7 k) := sm_putR (ci := 9) (n := 7) (ty := tyX9 7) rfl (by decide) rfl rfl (zputF (C := RX9) (T := TX9) (N := 63) (ty0 := tyX9) (ty := tyX9 7) inz9 tyX9_ok nmX9 rfl (by decide) (by rw [h1]; exact wd_1025) rfl rfl h2 (by rw [h1]; rfl) dg) hs
theorem pf_X9_26 [zGh] {d : Nat} {X : zM} {fr : Nat} {P : zP d} {pc : Nat} {k : zK d} (h1 : X.1 = RX9) (h2 : X.2.2.2.2 = "<init>") (dg : decode X.2.1 pc = .ok (.putfield 26, 3)) (hs : zSim X fr P (pc + 3) k) : zSim X fr P pc (xpfR 25 8 k) := sm_putR (ci := 9) (n := 8) (ty := tyX9 8) rfl (by decide) rfl rfl (zputF (C := RX9) (T := TX9) (N := 63) (ty0 := tyX9) (ty := tyX9 8) inz9 tyX9_ok nmX9 rfl (by decide) (by rw [h1]; exact wd_1026) rfl rfl h2 (by rw [h1]; rfl) dg) hs
theorem pf_X9_29 [zGh] {d : Nat} {X : zM} {fr : Nat} {P : zP d} {pc : Nat} {k : zK d} (h1 : X.1 = RX9) (h2 : X.2.2.2.2 = "<init>") (dg : decode X.2.1 pc = .ok (.putfield 29, 3)) (hs : zSim X fr P (pc + 3) k) : zSim X fr P pc (xpfR 25 9 k) := sm_putR (ci := 9) (n := 9) (ty := tyX9 9) rfl (by decide) rfl rfl (zputF (C := RX9) (T := TX9) (N := 63) (ty0 := tyX9) (ty := tyX9 9) inz9 tyX9_ok nmX9 rfl (by decide) (by rw [h1]; exact wd_1027) rfl rfl h2 (by rw [h1]; rfl) dg) hs
theorem pf_X9_32 [zGh] {d : Nat} {X : zM} {fr : Nat} {P : zP d} {pc : Nat} {k : zK d} (h1 : X.1 = RX9) (h2 : X.2.2.2.2 = "<init>") (dg : decode X.2.1 pc = .ok (.putfield 32, 3)) (hs : zSim X fr P (pc + 3) k) : zSim X fr P pc (xpfR 25 10 k) := sm_putR (ci := 9) (n := 10) (ty := tyX9 10) rfl (by decide) rfl rfl (zputF (C := RX9) (T := TX9) (N := 63) (ty0 := tyX9) (ty := tyX9 10) inz9 tyX9_ok nmX9 rfl (by decide) (by rw [h1]; exact wd_1028) rfl rfl h2 (by rw [h1]; rfl) dg) hs
theorem pf_X9_35 [zGh] {d : Nat} {X : zM} {fr : Nat} {P : zP d} {pc : Nat} {k : zK d} (h1 : X.1 = RX9) (h2 : X.2.2.2.2 = "<init>") (dg : decode X.2.1 pc = .ok (.putfield 35, 3)) (hs : zSim X fr P (pc + 3) k) : zSim X fr P pc (xpfR 25 13 k) := sm_putR (ci := 9) (n := 13) (ty := tyX9 13) rfl (by decide) rfl rfl (zputF (C := RX9) (T := TX9) (N := 63) (ty0 := tyX9) (ty := tyX9 13) inz9 tyX9_ok nmX9 rfl (by decide) (by rw [h1]; exact wd_1031) rfl rfl h2 (by rw [h1]; rfl) dg) hs
theorem pf_X9_38 [zGh] {d : Nat} {X : zM} {fr : Nat} {P : zP d} {pc : Nat} {k : zK d} (h1 : X.1 = RX9) (h2 : X.2.2.2.2 = "<init>") (dg : decode X.2.1 pc = .ok (.putfield 38, 3)) (hs : zSim X fr P (pc + 3) k) : zSim X fr P pc (xpfR 25 14 k) := sm_putR (ci := 9) (n := 14) (ty := tyX9 14) rfl (by decide) rfl rfl (zputF (C := RX9) (T := TX9) (N := 63) (ty0 := tyX9) (ty := tyX9 14) inz9 tyX9_ok nmX9 rfl (by decide) (by rw [h1]; exact wd_1032) rfl rfl h2 (by rw [h1]; rfl) dg) hs
theorem pf_X9_41 [zGh] {d : Nat} {X : zM} {fr : Nat} {P : zP d} {pc : Nat} {k : zK d} (h1 : X.1 = RX9) (h2 : X.2.2.2.2 = "<init>") (dg : decode X.2.1 pc = .ok (.putfield 41, 3)) (hs : zSim X fr P (pc + 3) k) : zSim X fr P pc (xpfR 25 15 k) := sm_putR (ci := 9) (n := 15) (ty := tyX9 15) rfl (by decide) rfl rfl (zputF (C := RX9) (T := TX9) (N := 63) (ty0 := tyX9) (ty := tyX9 15) inz9 tyX9_ok nmX9 rfl (by decide) (by rw [h1]; exact wd_1033) rfl rfl h2 (by rw [h1]; rfl) dg) hs
theorem pf_X9_44 [zGh] {d : Nat} {X : zM} {fr : Nat} {P : zP d} {pc : Nat} {k : zK d} (h1 : X.1 = RX9) (h2 : X.2.2.2.2 = "<init>") (dg : decode X.2.1 pc = .ok (.putfield 44, 3)) (hs : zSim X fr P (pc + 3) k) : zSim X fr P pc (xpfR 25 16 k) := sm_putR (ci := 9) (n := 16) (ty := tyX9 16) rfl (by decide) rfl rfl (zputF (C := RX9) (T := TX9) (N := 63) (ty0 := tyX9) (ty := tyX9 16) inz9 tyX9_ok nmX9 rfl (by decide) (by rw [h1]; exact wd_1034) rfl rfl h2 (by rw [h1]; rfl) dg) hs
theorem pf_X9_47 [zGh] {d : Nat} {X : zM} {fr : Nat} {P : zP d} {pc : Nat} {k : zK d} (h1 : X.1 = RX9) (h2 : X.2.2.2.2 = "<init>") (dg : decode X.2.1 pc = .ok (.putfield 47, 3)) (hs : zSim X fr P (pc + 3) k) : zSim X fr P pc (xpfR 25 17 k) := sm_putR (ci := 9) (n := 17) (ty := tyX9 17) rfl (by decide) rfl rfl (zputF (C := RX9) (T := TX9) (N := 63) (ty0 := tyX9) (ty := tyX9 17) inz9 tyX9_ok nmX9 rfl (by decide) (by rw [h1]; exact wd_1035) rfl rfl h2 (by rw [h1]; rfl) dg) hs
theorem pf_X9_50 [zGh] {d : Nat} {X : zM} {fr : Nat} {P : zP d} {pc : Nat} {k : zK d} (h1 : X.1 = RX9) (h2 : X.2.2.2.2 = "<init>") (dg : decode X.2.1 pc = .ok (.putfield 50, 3)) (hs : zSim X fr P (pc + 3) k) : zSim X fr P pc (xpfR 25 19 k) := sm_putR (ci := 9) (n := 19) (ty := tyX9 19) rfl (by decide) rfl rfl (zputF (C := RX9) (T := TX9) (N := 63) (ty0 := tyX9) (ty := tyX9 19) inz9 tyX9_ok nmX9 rfl (by decide) (by rw [h1]; exact wd_1037) rfl rfl h2 (by rw [h1]; rfl) dg) hs
theorem pf_X9_53 [zGh] {d : Nat} {X : zM} {fr : Nat} {P : zP d} {pc : Nat} {k : zK d} (h1 : X.1 = RX9) (h2 : X.2.2.2.2 = "<init>") (dg : decode X.2.1 pc = .ok (.putfield 53, 3)) (hs : zSim X fr P (pc + 3) k) : zSim X fr P pc (xpfR 25 20 k) := sm_putR (ci := 9) (n := 20) (ty := tyX9 20) rfl (by decide) rfl rfl (zputF (C := RX9) (T := TX9) (N := 63) (ty0 := tyX9) (ty := tyX9 20) inz9 tyX9_ok nmX9 rfl (by decide) (by rw [h1]; exact wd_1038) rfl rfl h2 (by rw [h1]; rfl) dg) hs
theorem pf_X9_56 [zGh] {d : Nat} {X : zM} {fr : Nat} {P : zP d} {pc : Nat} {k : zK d} (h1 : X.1 = RX9) (h2 : X.2.2.2.2 = "<init>") (dg : decode X.2.1 pc = .ok (.putfield 56, 3)) (hs : zSim X fr P (pc + 3) k) : zSim X fr P pc (xpfR 25 21 k) := sm_putR (ci := 9) (n := 21) (ty := tyX9 21) rfl (by decide) rfl rfl (zputF (C := RX9) (T := TX9) (N := 63) (ty0 := tyX9) (ty := tyX9 21) inz9 tyX9_ok nmX9 rfl (by decide) (by rw [h1]; exact wd_1039) rfl rfl h2 (by rw [h1]; rfl) dg) hs
theorem pf_X9_59 [zGh] {d : Nat} {X : zM} {fr : Nat} {P : zP d} {pc : Nat} {k : zK d} (h1 : X.1 = RX9) (h2 : X.2.2.2.2 = "<init>") (dg : decode X.2.1 pc = .ok (.putfield 59, 3)) (hs : zSim X fr P (pc + 3) k) : zSim X fr P pc (xpfR 25 22 k) := sm_putR (ci := 9) (n := 22) (ty := tyX9 22) rfl (by decide) rfl rfl (zputF (C := RX9) (T := TX9) (N := 63) (ty0 := tyX9) (ty := tyX9 22) inz9 tyX9_ok nmX9 rfl (by decide) (by rw [h1]; exact wd_1040) rfl rfl h2 (by rw [h1]; rfl) dg) hs
theorem pf_X9_62 [zGh] {d : Nat} {X : zM} {fr : Nat} {P : zP d} {pc : Nat} {k : zK d} (h1 : X.1 = RX9) (h2 : X.2.2.2.2 = "<init>") (dg : decode X.2.1 pc = .ok (.putfield 62, 3)) (hs : zSim X fr P (pc + 3) k) : zSim X fr P pc (xpfR 25 24 k) := sm_putR (ci := 9) (n := 24) (ty := tyX9 24) rfl (by decide) rfl rfl (zputF (C := RX9) (T := TX9) (N := 63) (ty0 := tyX9) (ty := tyX9 24) inz9 tyX9_ok nmX9 rfl (by decide) (by rw [h1]; exact wd_1042) rfl rfl h2 (by rw [h1]; rfl) dg) hs
theorem pf_X9_66 [zGh] {d : Nat} {X : zM} {fr : Nat} {P : zP d} {pc : Nat} {k : zK d} (h1 : X.1 = RX9) (h2 : X.2.2.2.2 = "<init>") (dg : decode X.2.1 pc = .ok (.putfield 66, 3)) (hs : zSim X fr P (pc + 3) k) : zSim X fr P pc (xpfR 25 26 k) := sm_putR (ci := 9) (n := 26) (ty := tyX9 26) rfl (by decide) rfl rfl (zputF (C := RX9) (T := TX9) (N := 63) (ty0 := tyX9) (ty := tyX9 26) inz9 tyX9_ok nmX9 rfl (by decide) (by rw [h1]; exact wd_1044) rfl rfl h2 (by rw [h1]; rfl) dg) hs
theorem pf_X9_69 [zGh] {d : Nat} {X : zM} {fr : Nat} {P : zP d} {pc : Nat} {k : zK d} (h1 : X.1 = RX9) (h2 : X.2.2.2.2 = "<init>") (dg : decode X.2.1 pc = .ok (.putfield 69, 3)) (hs : zSim X fr P (pc + 3) k) : zSim X fr P pc (xpfR 25 27 k) := sm_putR (ci := 9) (n := 27) (ty := tyX9 27) rfl (by decide) rfl rfl (zputF (C := RX9) (T := TX9) (N := 63) (ty0 := tyX9) (ty := tyX9 27) inz9 tyX9_ok nmX9 rfl (by decide) (by rw [h1]; exact wd_1045) rfl rfl h2 (by rw [h1]; rfl) dg) hs
theorem pf_X9_72 [zGh] {d : Nat} {X : zM} {fr : Nat} {P : zP d} {pc : Nat} {k : zK d} (h1 : X.1 = RX9) (h2 : X.2.2.2.2 = "<init>") (dg : decode X.2.1 pc = .ok (.putfield 72, 3)) (hs : zSim X fr P (pc + 3) k) : zSim X fr P pc (xpfR 25 29 k) := sm_putR (ci := 9) (n := 29) (ty := tyX9 29) rfl (by decide) rfl rfl (zputF (C := RX9) (T := TX9) (N := 63) (ty0 := tyX9) (ty := tyX9 29) inz9 tyX9_ok nmX9 rfl (by decide) (by rw [h1]; exact wd_1047) rfl rfl h2 (by rw [h1]; rfl) dg) hs
theorem pf_X9_75 [zGh] {d : Nat} {X : zM} {fr : Nat} {P : zP d} {pc : Nat} {k : zK d} (h1 : X.1 = RX9) (h2 : X.2.2.2.2 = "<init>") (dg : decode X.2.1 pc = .ok (.putfield 75, 3)) (hs : zSim X fr P (pc + 3) k) : zSim X fr P pc (xpfR 25 30 k) := sm_putR (ci := 9) (n := 30) (ty := tyX9 30) rfl (by decide) rfl rfl (zputF (C := RX9) (T := TX9) (N := 63) (ty0 := tyX9) (ty := tyX9 30) inz9 tyX9_ok nmX9 rfl (by decide) (by rw [h1]; exact wd_1048) rfl rfl h2 (by rw [h1]; rfl) dg) hs
theorem pf_X9_78 [zGh] {d : Nat} {X : zM} {fr : Nat} {P : zP d} {pc : Nat} {k : zK d} (h1 : X.1 = RX9) (h2 : X.2.2.2.2 = "<init>") (dg : decode X.2.1 pc = .ok (.putfield 78, 3)) (hs : zSim X fr P (pc + 3) k) : zSim X fr P pc (xpfR 25 31 k) := sm_putR (ci := 9) (n := 31) (ty := tyX9 31) rfl (by decide) rfl rfl (zputF (C := RX9) (T := TX9) (N := 63) (ty0 := tyX9) (ty := tyX9 31) inz9 tyX9_ok nmX9 rfl (by decide) (by rw [h1]; exact wd_1049) rfl rfl h2 (by rw [h1]; rfl) dg) hs
theorem pf_X9_81 [zGh] {d : Nat} {X : zM} {fr : Nat} {P : zP d} {pc : Nat} {k : zK d} (h1 : X.1 = RX9) (h2 : X.2.2.2.2 = "<init>") (dg : decode X.2.1 pc = .ok (.putfield 81, 3)) (hs : zSim X fr P (pc + 3) k) : zSim X fr P pc (xpfR 25 32 k) := sm_putR (ci := 9) (n := 32) (ty := tyX9 32) rfl (by decide) rfl rfl (zputF (C := RX9) (T := TX9) (N := 63) (ty0 := tyX9) (ty := tyX9 32) inz9 tyX9_ok nmX9 rfl (by decide) (by rw [h1]; exact wd_1050) rfl rfl h2 (by rw [h1]; rfl) dg) hs
theorem pf_X9_84 [zGh] {d : Nat} {X : zM} {fr : Nat} {P : zP d} {pc : Nat} {k : zK d} (h1 : X.1 = RX9) (h2 : X.2.2.2.2 = "<init>") (dg : decode X.2.1 pc = .ok (.putfield 84, 3)) (hs : zSim X fr P (pc + 3) k) : zSim X fr P pc (xpfR 25 33 k) := sm_putR (ci := 9) (n := 33) (ty := tyX9 33) rfl (by decide) rfl rfl (zputF (C := RX9) (T := TX9) (N := 63) (ty0 := tyX9) (ty := tyX9 33) inz9 tyX9_ok nmX9 rfl (by decide) (by rw [h1]; exact wd_1051) rfl rfl h2 (by rw [h1]; rfl) dg) hs
theorem pf_X9_87 [zGh] {d : Nat} {X : zM} {fr : Nat} {P : zP d} {pc : Nat} {k : zK d} (h1 : X.1 = RX9) (h2 : X.2.2.2.2 = "<init>") (dg : decode X.2.1 pc = .ok (.putfield 87, 3)) (hs : zSim X fr P (pc + 3) k) : zSim X fr P pc (xpfR 25 34 k) := sm_putR (ci := 9) (n := 34) (ty := tyX9 34) rfl (by decide) rfl rfl (zputF (C := RX9) (T := TX9) (N := 63) (ty0 := tyX9) (ty := tyX9 34) inz9 tyX9_ok nmX9 rfl (by decide) (by rw [h1]; exact wd_1052) rfl rfl h2 (by rw [h1]; rfl) dg) hs
theorem pf_X9_90 [zGh] {d : Nat} {X : zM} {fr : Nat} {P : zP d} {pc : Nat} {k : zK d} (h1 : X.1 = RX9) (h2 : X.2.2.2.2 = "<init>") (dg : decode X.2.1 pc = .ok (.putfield 90, 3)) (hs : zSim X fr P (pc + 3) k) : zSim X fr P pc (xpfR 25 35 k) := sm_putR (ci := 9) (n := 35) (ty := tyX9 35) rfl (by decide) rfl rfl (zputF (C := RX9) (T := TX9) (N := 63) (ty0 := tyX9) (ty := tyX9 35) inz9 tyX9_ok nmX9 rfl (by decide) (by rw [h1]; exact wd_1053) rfl rfl h2 (by rw [h1]; rfl) dg) hs
theorem pf_X9_93 [zGh] {d : Nat} {X : zM} {fr : Nat} {P : zP d} {pc : Nat} {k : zK d} (h1 : X.1 = RX9) (h2 : X.2.2.2.2 = "<init>") (dg : decode X.2.1 pc = .ok (.putfield 93, 3)) (hs : zSim X fr P (pc + 3) k) : zSim X fr P pc (xpfR 25 36 k) := sm_putR (ci := 9) (n := 36) (ty := tyX9 36) rfl (by decide) rfl rfl (zputF (C := RX9) (T := TX9) (N := 63) (ty0 := tyX9) (ty := tyX9 36) inz9 tyX9_ok nmX9 rfl (by decide) (by rw [h1]; exact wd_1054) rfl rfl h2 (by rw [h1]; rfl) dg) hs
theorem pf_X9_96 [zGh] {d : Nat} {X : zM} {fr : Nat} {P : zP d} {pc : Nat} {k : zK d} (h1 : X.1 = RX9) (h2 : X.2.2.2.2 = "<init>") (dg : decode X.2.1 pc = .ok (.putfield 96, 3)) (hs : zSim X fr P (pc + 3) k) : zSim X fr P pc (xpfR 25 37 k) := sm_putR (ci := 9) (n := 37) (ty := tyX9 37) rfl (by decide) rfl rfl (zputF (C := RX9) (T := TX9) (N := 63) (ty0 := tyX9) (ty := tyX9 37) inz9 tyX9_ok nmX9 rfl (by decide) (by rw [h1]; exact wd_1055) rfl rfl h2 (by rw [h1]; rfl) dg) hs
theorem pf_X9_99 [zGh] {d : Nat} {X : zM} {fr : Nat} {P : zP d} {pc : Nat} {k : zK d} (h1 : X.1 = RX9) (h2 : X.2.2.2.2 = "<init>") (dg : decode X.2.1 pc = .ok (.putfield 99, 3)) (hs : zSim X fr P (pc + 3) k) : zSim X fr P pc (xpfR 25 38 k) := sm_putR (ci := 9) (n := 38) (ty := tyX9 38) rfl (by decide) rfl rfl (zputF (C := RX9) (T := TX9) (N := 63) (ty0 := tyX9) (ty := tyX9 38) inz9 tyX9_ok nmX9 rfl (by decide) (by rw [h1]; exact wd_1056) rfl rfl h2 (by rw [h1]; rfl) dg) hs
theorem pf_X9_102 [zGh] {d : Nat} {X : zM} {fr : Nat} {P : zP d} {pc : Nat} {k : zK d} (h1 : X.1 = RX9) (h2 : X.2.2.2.2 = "<init>") (dg : decode X.2.1 pc = .ok (.putfield 102, 3)) (hs : zSim X fr P (pc + 3) k) : zSim X fr P pc (xpfR 25 39 k) := sm_putR (ci := 9) (n := 39) (ty := tyX9 39) rfl (by decide) rfl rfl (zputF (C := RX9) (T := TX9) (N := 63) (ty0 := tyX9) (ty := tyX9 39) inz9 tyX9_ok nmX9 rfl (by decide) (by rw [h1]; exact wd_1057) rfl rfl h2 (by rw [h1]; rfl) dg) hs
theorem pf_X9_105 [zGh] {d : Nat} {X : zM} {fr : Nat} {P : zP d} {pc : Nat} {k : zK d} (h1 : X.1 = RX9) (h2 : X.2.2.2.2 = "<init>") (dg : decode X.2.1 pc = .ok (.putfield 105, 3)) (hs : zSim X fr P (pc + 3) k) : zSim X fr P pc (xpfR 25 40 k) := sm_putR (ci := 9) (n := 40) (ty := tyX9 40) rfl (by decide) rfl rfl (zputF (C := RX9) (T := TX9) (N := 63) (ty0 := tyX9) (ty := tyX9 40) inz9 tyX9_ok nmX9 rfl (by decide) (by rw [h1]; exact wd_1058) rfl rfl h2 (by rw [h1]; rfl) dg) hs
theorem pf_X9_108 [zGh] {d : Nat} {X : zM} {fr : Nat} {P : zP d} {pc : Nat} {k : zK d} (h1 : X.1 = RX9) (h2 : X.2.2.2.2 = "<init>") (dg : decode X.2.1 pc = .ok (.putfield 108, 3)) (hs : zSim X fr P (pc + 3) k) : zSim X fr P pc (xpfR 25 41 k) := sm_putR (ci := 9) (n := 41) (ty := tyX9 41) rfl (by decide) rfl rfl (zputF (C := RX9) (T := TX9) (N := 63) (ty0 := tyX9) (ty := tyX9 41) inz9 tyX9_ok nmX9 rfl (by decide) (by rw [h1]; exact wd_1059) rfl rfl h2 (by rw [h1]; rfl) dg) hs
theorem pf_X9_112 [zGh] {d : Nat} {X : zM} {fr : Nat} {P : zP d} {pc : Nat} {k : zK d} (h1 : X.1 = RX9) (h2 : X.2.2.2.2 = "<init>") (dg : decode X.2.1 pc = .ok (.putfield 112, 3)) (hs : zSim X fr P (pc + 3) k) : zSim X fr P pc (xpfR 25 42 k) := sm_putR (ci := 9) (n := 42) (ty := tyX9 42) rfl (by decide) rfl rfl (zputF (C := RX9) (T := TX9) (N := 63) (ty0 := tyX9) (ty := tyX9 42) inz9 tyX9_ok nmX9 rfl (by decide) (by rw [h1]; exact wd_1060) rfl rfl h2 (by rw [h1]; rfl) dg) hs
theorem pf_X9_115 [zGh] {d : Nat} {X : zM} {fr : Nat} {P : zP d} {pc : Nat} {k : zK d} (h1 : X.1 = RX9) (h2 : X.2.2.2.2 = "<init>") (dg : decode X.2.1 pc = .ok (.putfield 115, 3)) (hs : zSim X fr P (pc + 3) k) : zSim X fr P pc (xpfR 25 43 k) := sm_putR (ci := 9) (n := 43) (ty := tyX9 43) rfl (by decide) rfl rfl (zputF (C := RX9) (T := TX9) (N := 63) (ty0 := tyX9) (ty := tyX9 43) inz9 tyX9_ok nmX9 rfl (by decide) (by rw [h1]; exact wd_1061) rfl rfl h2 (by rw [h1]; rfl) dg) hs
theorem pf_X9_118 [zGh] {d : Nat} {X : zM} {fr : Nat} {P : zP d} {pc : Nat} {k : zK d} (h1 : X.1 = RX9) (h2 : X.2.2.2.2 = "<init>") (dg : decode X.2.1 pc = .ok (.putfield 118, 3)) (hs : zSim X fr P (pc + 3) k) : zSim X fr P pc (xpfR 25 44 k) := sm_putR (ci := 9) (n := 44) (ty := tyX9 44) rfl (by decide) rfl rfl (zputF (C := RX9) (T := TX9) (N := 63) (ty0 := tyX9) (ty := tyX9 44) inz9 tyX9_ok nmX9 rfl (by decide) (by rw [h1]; exact wd_1062) rfl rfl h2 (by rw [h1]; rfl) dg) hs
theorem pf_X9_121 [zGh] {d : Nat} {X : zM} {fr : Nat} {P : zP d} {pc : Nat} {k : zK d} (h1 : X.1 = RX9) (h2 : X.2.2.2.2 = "<init>") (dg : decode X.2.1 pc = .ok (.putfield 121, 3)) (hs : zSim X fr P (pc + 3) k) : zSim X fr P pc (xpfR 25 45 k) := sm_putR (ci := 9) (n := 45) (ty := tyX9 45) rfl (by decide) rfl rfl (zputF (C := RX9) (T := TX9) (N := 63) (ty0 := tyX9) (ty := tyX9 45) inz9 tyX9_ok nmX9 rfl (by decide) (by rw [h1]; exact wd_1063) rfl rfl h2 (by rw [h1]; rfl) dg) hs
theorem pf_X9_124 [zGh] {d : Nat} {X : zM} {fr : Nat} {P : zP d} {pc : Nat} {k : zK d} (h1 : X.1 = RX9) (dg : decode X.2.1 pc = .ok (.putfield 124, 3)) (hs : zSim X fr P (pc + 3) k) : zSim X fr P pc (xpfI 25 49 k) := sm_putI (ci := 9) (n := 49) (ty := tyX9 49) rfl (by decide) rfl rfl (zput (C := RX9) (T := TX9) (N := 63) (ty0 := tyX9) (ty := tyX9 49) inz9 tyX9_ok nmX9 rfl (by decide) (by rw [h1]; exact wd_1067) rfl rfl dg) hs
theorem pf_X9_128 [zGh] {d : Nat} {X : zM} {fr : Nat} {P : zP d} {pc : Nat} {k : zK d} (h1 : X.1 = RX9) (h2 : X.2.2.2.2 = "<init>") (dg : decode X.2.1 pc = .ok (.putfield 128, 3)) (hs : zSim X fr P (pc + 3) k) : zSim X fr P pc (xpfR 25 51 k) := sm_putR (ci := 9) (n := 51) (ty := tyX9 51) rfl (by decide) rfl rfl (zputF (C := RX9) (T := TX9) (N := 63) (ty0 := tyX9) (ty := tyX9 51) inz9 tyX9_ok nmX9 rfl (by decide) (by rw [h1]; exact wd_1069) rfl rfl h2 (by rw [h1]; rfl) dg) hs
theorem pf_X9_131 [zGh] {d : Nat} {X : zM} {fr : Nat} {P : zP d} {pc : Nat} {k : zK d} (h1 : X.1 = RX9) (h2 : X.2.2.2.2 = "<init>") (dg : decode X.2.1 pc = .ok (.putfield 131, 3)) (hs : zSim X fr P (pc + 3) k) : zSim X fr P pc (xpfR 25 52 k) := sm_putR (ci := 9) (n := 52) (ty := tyX9 52) rfl (by decide) rfl rfl (zputF (C := RX9) (T := TX9) (N := 63) (ty0 := tyX9) (ty := tyX9 52) inz9 tyX9_ok nmX9 rfl (by decide) (by rw [h1]; exact wd_1070) rfl rfl h2 (by rw [h1]; rfl) dg) hs
theorem pf_X9_134 [zGh] {d : Nat} {X : zM} {fr : Nat} {P : zP d} {pc : Nat} {k : zK d} (h1 : X.1 = RX9) (h2 : X.2.2.2.2 = "<init>") (dg : decode X.2.1 pc = .ok (.putfield 134, 3)) (hs : zSim X fr P (pc + 3) k) : zSim X fr P pc (xpfR 25 56 k) := sm_putR (ci := 9) (n := 56) (ty := tyX9 56) rfl (by decide) rfl rfl (zputF (C := RX9) (T := TX9) (N := 63) (ty0 := tyX9) (ty := tyX9 56) inz9 tyX9_ok nmX9 rfl (by decide) (by rw [h1]; exact wd_1074) rfl rfl h2 (by rw [h1]; rfl) dg) hs
theorem pf_X9_137 [zGh] {d : Nat} {X : zM} {fr : Nat} {P : zP d} {pc : Nat} {k : zK d} (h1 : X.1 = RX9) (h2 : X.2.2.2.2 = "<init>") (dg : decode X.2.1 pc = .ok (.putfield 137, 3)) (hs : zSim X fr P (pc + 3) k) : zSim X fr P pc (xpfR 25 57 k) := sm_putR (ci := 9) (n := 57) (ty := tyX9 57) rfl (by decide) rfl rfl (zputF (C := RX9) (T := TX9) (N := 63) (ty0 := tyX9) (ty := tyX9 57) inz9 tyX9_ok nmX9 rfl (by decide) (by rw [h1]; exact wd_1075) rfl rfl h2 (by rw [h1]; rfl) dg) hs
theorem pf_X9_140 [zGh] {d : Nat} {X : zM} {fr : Nat} {P : zP d} {pc : Nat} {k : zK d} (h1 : X.1 = RX9) (h2 : X.2.2.2.2 = "<init>") (dg : decode X.2.1 pc = .ok (.putfield 140, 3)) (hs : zSim X fr P (pc + 3) k) : zSim X fr P pc (xpfR 25 58 k) := sm_putR (ci := 9) (n := 58) (ty := tyX9 58) rfl (by decide) rfl rfl (zputF (C := RX9) (T := TX9) (N := 63) (ty0 := tyX9) (ty := tyX9 58) inz9 tyX9_ok nmX9 rfl (by decide) (by rw [h1]; exact wd_1076) rfl rfl h2 (by rw [h1]; rfl) dg) hs
theorem pf_X9_143 [zGh] {d : Nat} {X : zM} {fr : Nat} {P : zP d} {pc : Nat} {k : zK d} (h1 : X.1 = RX9) (h2 : X.2.2.2.2 = "<init>") (dg : decode X.2.1 pc = .ok (.putfield 143, 3)) (hs : zSim X fr P (pc + 3) k) : zSim X fr P pc (xpfR 25 60 k) := sm_putR (ci := 9) (n := 60) (ty := tyX9 60) rfl (by decide) rfl rfl (zputF (C := RX9) (T := TX9) (N := 63) (ty0 := tyX9) (ty := tyX9 60) inz9 tyX9_ok nmX9 rfl (by decide) (by rw [h1]; exact wd_1078) rfl rfl h2 (by rw [h1]; rfl) dg) hs
theorem pf_X9_146 [zGh] {d : Nat} {X : zM} {fr : Nat} {P : zP d} {pc : Nat} {k : zK d} (h1 : X.1 = RX9) (h2 : X.2.2.2.2 = "<init>") (dg : decode X.2.1 pc = .ok (.putfield 146, 3)) (hs : zSim X fr P (pc + 3) k) : zSim X fr P pc (xpfR 25 62 k) := sm_putR (ci := 9) (n := 62) (ty := tyX9 62) rfl (by decide) rfl rfl (zputF (C := RX9) (T := TX9) (N := 63) (ty0 := tyX9) (ty := tyX9 62) inz9 tyX9_ok nmX9 rfl (by decide) (by rw [h1]; exact wd_1080) rfl rfl h2 (by rw [h1]; rfl) dg) hs
theorem cr_X9_149 {X : zM} {fr frc pc mc ms : Nat} (h1 : X.1 = RX9) (hfr : frc + 1 ≤ fr) (dg : decode X.2.1 pc = .ok (.invokevirtual 149, 3)) : zRun X (RX9, cX9_lays, 7, none, "lays") yX9_lays fr frc pc 3 mc ms (fun ws As => ∃ (b : Nat) (As' : List Value) (q0 : Nat) (fs : List Value), As = .ref b :: As' ∧ ws[q0]? = some (b, .inr (9, fs))) := zrunV (n := 2) (ci := 9) rfl rfl wd_912 wd_14 (by rw [h1]; exact wd_909) wd_911 ws_53 (by decide) hfr (by decide) dg
theorem cr_X9_283 {X : zM} {fr frc pc mc ms : Nat} (h1 : X.1 = RX9) (hfr : frc + 1 ≤ fr) (dg : decode X.2.1 pc = .ok (.invokestatic 283, 3)) : zRun X (RX9, cX9_isIn, 6, (some .boolean), "isIn") yX9_isIn fr frc pc 3 mc ms (fun _ _ => True) := zrunS (n := 3) wd_1215 wd_14 (by rw [h1]; exact wd_1213) wd_1214 (by decide) hfr (by decide) dg
end
