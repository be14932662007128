/-! instructions of the class, by program -/
theorem zdT_dX3_init_12 : zdch cX3_init [(12, (.multianewarray 13 2, 4)), (16, (.putfield 15, 3)), (19, (.return_, 1))] = true := by decide +kernel
theorem dX3_init_12 : decode cX3_init 12 = .ok (.multianewarray 13 2, 4) := zdcg 0 zdT_dX3_init_12 rfl
theorem dX3_init_16 : decode cX3_init 16 = .ok (.putfield 15, 3) := zdcg 1 zdT_dX3_init_12 rfl
theorem dX3_init_19 : decode cX3_init 19 = .ok (.return_, 1) := zdcg 2 zdT_dX3_init_12 rfl
theorem zdT_dX3_set_0 : zdch cX3_set [(0, (.aload_n 0, 1)), (1, (.getfield 15, 3)), (4, (.iload_n 1, 1)), (5, (.aaload, 1)), (6, (.iload_n 2, 1)), (7, (.iload_n 3, 1)), (8, (.aload_n 0, 1)), (9, (.getfield 7, 3)), (12, (.invokestatic 18, 3)), (15, (.iastore, 1)), (16, (.return_, 1))] = true := by decide +kernel
theorem dX3_set_0 : decode cX3_set 0 = .ok (.aload_n 0, 1) := zdcg 0 zdT_dX3_set_0 rfl
theorem dX3_set_1 : decode cX3_set 1 = .ok (.getfield 15, 3) := zdcg 1 zdT_dX3_set_0 rfl
theorem dX3_set_4 : decode cX3_set 4 = .ok (.iload_n 1, 1) := zdcg 2 zdT_dX3_set_0 rfl
theorem dX3_set_5 : decode cX3_set 5 = .ok (.aaload, 1) := zdcg 3 zdT_dX3_set_0 rfl
theorem dX3_set_6 : decode cX3_set 6 = .ok (.iload_n 2, 1) := zdcg 4 zdT_dX3_set_0 rfl
theorem dX3_set_7 : decode cX3_set 7 = .ok (.iload_n 3, 1) := zdcg 5 zdT_dX3_set_0 rfl
theorem dX3_set_8 : decode cX3_set 8 = .ok (.aload_n 0, 1) := zdcg 6 zdT_dX3_set_0 rfl
theorem dX3_set_9 : decode cX3_set 9 = .ok (.getfield 7, 3) := zdcg 7 zdT_dX3_set_0 rfl
theorem dX3_set_12 : decode cX3_set 12 = .ok (.invokestatic 18, 3) := zdcg 8 zdT_dX3_set_0 rfl
theorem dX3_set_15 : decode cX3_set 15 = .ok (.iastore, 1) := zdcg 9 zdT_dX3_set_0 rfl
theorem dX3_set_16 : decode cX3_set 16 = .ok (.return_, 1) := zdcg 10 zdT_dX3_set_0 rfl
theorem zdT_dX3_reduce_0 : zdch cX3_reduce [(0, (.iconst 0, 1)), (1, (.istore 4, 2)), (3, (.iconst 0, 1)), (4, (.istore 5, 2)), (6, (.iload 5, 2)), (8, (.iload_n 2, 1)), (9, (.if_icmp .ge 163, 3)), (12, (.iload 4, 2)), (14, (.iload_n 1, 1)), (15, (.if_icmp .ge 157, 3)), (18, (.iload 4, 2)), (20, (.istore 6, 2)), (22, (.iload 6, 2)), (24, (.iload_n 1, 1)), (25, (.if_icmp .ge 22, 3)), (28, (.aload_n 0, 1)), (29, (.getfield 15, 3)), (32, (.iload 6, 2)), (34, (.aaload, 1)), (35, (.iload 5, 2)), (37, (.iaload, 1)), (38, (.ifCond .ne 9, 3)), (41, (.iinc 6 1, 3)), (44, (.goto (-22), 3)), (47, (.iload 6, 2))] = true := by decide +kernel
theorem dX3_reduce_0 : decode cX3_reduce 0 = .ok (.iconst 0, 1) := zdcg 0 zdT_dX3_reduce_0 rfl
theorem dX3_reduce_1 : decode cX3_reduce 1 = .ok (.istore 4, 2) := zdcg 1 zdT_dX3_reduce_0 rfl
theorem dX3_reduce_3 : decode cX3_reduce 3 = .ok (.iconst 0, 1) := zdcg 2 zdT_dX3_reduce_0 rfl
theorem dX3_reduce_4 : decode cX3_reduce 4 = .ok (.istore 5, 2) := zdcg 3 zdT_dX3_reduce_0 rfl
theorem dX3_reduce_6 : decode cX3_reduce 6 = .ok (.iload 5, 2) := zdcg 4 zdT_dX3_reduce_0 rfl
theorem dX3_reduce_8 : decode cX3_reduce 8 = .ok (.iload_n 2, 1) := zdcg 5 zdT_dX3_reduce_0 rfl
theorem dX3_reduce_9 : decode cX3_reduce 9 = .ok (.if_icmp .ge 163, 3) := zdcg 6 zdT_dX3_reduce_0 rfl
theorem dX3_reduce_12 : decode cX3_reduce 12 = .ok (.iload 4, 2) := zdcg 7 zdT_dX3_reduce_0 rfl
theorem dX3_reduce_14 : decode cX3_reduce 14 = .ok (.iload_n 1, 1) := zdcg 8 zdT_dX3_reduce_0 rfl
theorem dX3_reduce_15 : decode cX3_reduce 15 = .ok (.if_icmp .ge 157, 3) := zdcg 9 zdT_dX3_reduce_0 rfl
theorem dX3_reduce_18 : decode cX3_reduce 18 = .ok (.iload 4, 2) := zdcg 10 zdT_dX3_reduce_0 rfl
theorem dX3_reduce_20 : decode cX3_reduce 20 = .ok (.istore 6, 2) := zdcg 11 zdT_dX3_reduce_0 rfl
theorem dX3_reduce_22 : decode cX3_reduce 22 = .ok (.iload 6, 2) := zdcg 12 zdT_dX3_reduce_0 rfl
theorem dX3_reduce_24 : decode cX3_reduce 24 = .ok (.iload_n 1, 1) := zdcg 13 zdT_dX3_reduce_0 rfl
theorem dX3_reduce_25 : decode cX3_reduce 25 = .ok (.if_icmp .ge 22, 3) := zdcg 14 zdT_dX3_reduce_0 rfl
theorem dX3_reduce_28 : decode cX3_reduce 28 = .ok (.aload_n 0, 1) := zdcg 15 zdT_dX3_reduce_0 rfl
theorem dX3_reduce_29 : decode cX3_reduce 29 = .ok (.getfield 15, 3) := zdcg 16 zdT_dX3_reduce_0 rfl
theorem dX3_reduce_32 : decode cX3_reduce 32 = .ok (.iload 6, 2) := zdcg 17 zdT_dX3_reduce_0 rfl
theorem dX3_reduce_34 : decode cX3_reduce 34 = .ok (.aaload, 1) := zdcg 18 zdT_dX3_reduce_0 rfl
theorem dX3_reduce_35 : decode cX3_reduce 35 = .ok (.iload 5, 2) := zdcg 19 zdT_dX3_reduce_0 rfl
theorem dX3_reduce_37 : decode cX3_reduce 37 = .ok (.iaload, 1) := zdcg 20 zdT_dX3_reduce_0 rfl
theorem dX3_reduce_38 : decode cX3_reduce 38 = .ok (.ifCond .ne 9, 3) := zdcg 21 zdT_dX3_reduce_0 rfl
theorem dX3_reduce_41 : decode cX3_reduce 41 = .ok (.iinc 6 1, 3) := zdcg 22 zdT_dX3_reduce_0 rfl
theorem dX3_reduce_44 : decode cX3_reduce 44 = .ok (.goto (-22), 3) := zdcg 23 zdT_dX3_reduce_0 rfl
theorem dX3_reduce_47 : decode cX3_reduce 47 = .ok (.iload 6, 2) := zdcg 24 zdT_dX3_reduce_0 rfl
theorem zdT_dX3_reduce_49 : zdch cX3_reduce [(49, (.iload_n 1, 1)), (50, (.if_icmp .ne 6, 3)), (53, (.goto 113, 3)), (56, (.aload_n 0, 1)), (57, (.getfield 15, 3)), (60, (.iload 6, 2)), (62, (.aaload, 1)), (63, (.astore 7, 2)), (65, (.aload_n 0, 1)), (66, (.getfield 15, 3)), (69, (.iload 6, 2)), (71, (.aload_n 0, 1)), (72, (.getfield 15, 3)), (75, (.iload 4, 2)), (77, (.aaload, 1)), (78, (.aastore, 1)), (79, (.aload_n 0, 1)), (80, (.getfield 15, 3)), (83, (.iload 4, 2)), (85, (.aload 7, 2)), (87, (.aastore, 1)), (88, (.aload_n 0, 1)), (89, (.aload 7, 2)), (91, (.aload_n 0, 1)), (92, (.aload 7, 2))] = true := by decide +kernel
theorem dX3_reduce_49 : decode cX3_reduce 49 = .ok (.iload_n 1, 1) := zdcg 0 zdT_dX3_reduce_49 rfl
theorem dX3_reduce_50 : decode cX3_reduce 50 = .ok (.if_icmp .ne 6, 3) := zdcg 1 zdT_dX3_reduce_49 rfl
theorem dX3_reduce_53 : decode cX3_reduce 53 = .ok (.goto 113, 3) := zdcg 2 zdT_dX3_reduce_49 rfl
theorem dX3_reduce_56 : decode cX3_reduce 56 = .ok (.aload_n 0, 1) := zdcg 3 zdT_dX3_reduce_49 rfl
theorem dX3_reduce_57 : decode cX3_reduce 57 = .ok (.getfield 15, 3) := zdcg 4 zdT_dX3_reduce_49 rfl
theorem dX3_reduce_60 : decode cX3_reduce 60 = .ok (.iload 6, 2) := zdcg 5 zdT_dX3_reduce_49 rfl
theorem dX3_reduce_62 : decode cX3_reduce 62 = .ok (.aaload, 1) := zdcg 6 zdT_dX3_reduce_49 rfl
theorem dX3_reduce_63 : decode cX3_reduce 63 = .ok (.astore 7, 2) := zdcg 7 zdT_dX3_reduce_49 rfl
theorem dX3_reduce_65 : decode cX3_reduce 65 = .ok (.aload_n 0, 1) := zdcg 8 zdT_dX3_reduce_49 rfl
theorem dX3_reduce_66 : decode cX3_reduce 66 = .ok (.getfield 15, 3) := zdcg 9 zdT_dX3_reduce_49 rfl
theorem dX3_reduce_69 : decode cX3_reduce 69 = .ok (.iload 6, 2) := zdcg 10 zdT_dX3_reduce_49 rfl
theorem dX3_reduce_71 : decode cX3_reduce 71 = .ok (.aload_n 0, 1) := zdcg 11 zdT_dX3_reduce_49 rfl
theorem dX3_reduce_72 : decode cX3_reduce 72 = .ok (.getfield 15, 3) := zdcg 12 zdT_dX3_reduce_49 rfl
theorem dX3_reduce_75 : decode cX3_reduce 75 = .ok (.iload 4, 2) := zdcg 13 zdT_dX3_reduce_49 rfl
theorem dX3_reduce_77 : decode cX3_reduce 77 = .ok (.aaload, 1) := zdcg 14 zdT_dX3_reduce_49 rfl
theorem dX3_reduce_78 : decode cX3_reduce 78 = .ok (.aastore, 1) := zdcg 15 zdT_dX3_reduce_49 rfl
theorem dX3_reduce_79 : decode cX3_reduce 79 = .ok (.aload_n 0, 1) := zdcg 16 zdT_dX3_reduce_49 rfl
theorem dX3_reduce_80 : decode cX3_reduce 80 = .ok (.getfield 15, 3) := zdcg 17 zdT_dX3_reduce_49 rfl
theorem dX3_reduce_83 : decode cX3_reduce 83 = .ok (.iload 4, 2) := zdcg 18 zdT_dX3_reduce_49 rfl
theorem dX3_reduce_85 : decode cX3_reduce 85 = .ok (.aload 7, 2) := zdcg 19 zdT_dX3_reduce_49 rfl
theorem dX3_reduce_87 : decode cX3_reduce 87 = .ok (.aastore, 1) := zdcg 20 zdT_dX3_reduce_49 rfl
theorem dX3_reduce_88 : decode cX3_reduce 88 = .ok (.aload_n 0, 1) := zdcg 21 zdT_dX3_reduce_49 rfl
theorem dX3_reduce_89 : decode cX3_reduce 89 = .ok (.aload 7, 2) := zdcg 22 zdT_dX3_reduce_49 rfl
theorem dX3_reduce_91 : decode cX3_reduce 91 = .ok (.aload_n 0, 1) := zdcg 23 zdT_dX3_reduce_49 rfl
theorem dX3_reduce_92 : decode cX3_reduce 92 = .ok (.aload 7, 2) := zdcg 24 zdT_dX3_reduce_49 rfl
theorem zdT_dX3_reduce_94 : zdch cX3_reduce [(94, (.iload 5, 2)), (96, (.iaload, 1)), (97, (.invokevirtual 24, 3)), (100, (.iload_n 3, 1)), (101, (.invokevirtual 28, 3)), (104, (.iconst 0, 1)), (105, (.istore 8, 2)), (107, (.iload 8, 2)), (109, (.iload_n 1, 1)), (110, (.if_icmp .ge 53, 3)), (113, (.iload 8, 2)), (115, (.iload 4, 2)), (117, (.if_icmp .eq 40, 3)), (120, (.aload_n 0, 1)), (121, (.getfield 15, 3)), (124, (.iload 8, 2)), (126, (.aaload, 1)), (127, (.iload 5, 2)), (129, (.iaload, 1)), (130, (.ifCond .eq 27, 3)), (133, (.aload_n 0, 1)), (134, (.aload_n 0, 1)), (135, (.getfield 15, 3)), (138, (.iload 8, 2)), (140, (.aaload, 1))] = true := by decide +kernel
theorem dX3_reduce_94 : decode cX3_reduce 94 = .ok (.iload 5, 2) := zdcg 0 zdT_dX3_reduce_94 rfl
theorem dX3_reduce_96 : decode cX3_reduce 96 = .ok (.iaload, 1) := zdcg 1 zdT_dX3_reduce_94 rfl
theorem dX3_reduce_97 : decode cX3_reduce 97 = .ok (.invokevirtual 24, 3) := zdcg 2 zdT_dX3_reduce_94 rfl
theorem dX3_reduce_100 : decode cX3_reduce 100 = .ok (.iload_n 3, 1) := zdcg 3 zdT_dX3_reduce_94 rfl
theorem dX3_reduce_101 : decode cX3_reduce 101 = .ok (.invokevirtual 28, 3) := zdcg 4 zdT_dX3_reduce_94 rfl
theorem dX3_reduce_104 : decode cX3_reduce 104 = .ok (.iconst 0, 1) := zdcg 5 zdT_dX3_reduce_94 rfl
theorem dX3_reduce_105 : decode cX3_reduce 105 = .ok (.istore 8, 2) := zdcg 6 zdT_dX3_reduce_94 rfl
theorem dX3_reduce_107 : decode cX3_reduce 107 = .ok (.iload 8, 2) := zdcg 7 zdT_dX3_reduce_94 rfl
theorem dX3_reduce_109 : decode cX3_reduce 109 = .ok (.iload_n 1, 1) := zdcg 8 zdT_dX3_reduce_94 rfl
theorem dX3_reduce_110 : decode cX3_reduce 110 = .ok (.if_icmp .ge 53, 3) := zdcg 9 zdT_dX3_reduce_94 rfl
theorem dX3_reduce_113 : decode cX3_reduce 113 = .ok (.iload 8, 2) := zdcg 10 zdT_dX3_reduce_94 rfl
theorem dX3_reduce_115 : decode cX3_reduce 115 = .ok (.iload 4, 2) := zdcg 11 zdT_dX3_reduce_94 rfl
theorem dX3_reduce_117 : decode cX3_reduce 117 = .ok (.if_icmp .eq 40, 3) := zdcg 12 zdT_dX3_reduce_94 rfl
theorem dX3_reduce_120 : decode cX3_reduce 120 = .ok (.aload_n 0, 1) := zdcg 13 zdT_dX3_reduce_94 rfl
theorem dX3_reduce_121 : decode cX3_reduce 121 = .ok (.getfield 15, 3) := zdcg 14 zdT_dX3_reduce_94 rfl
theorem dX3_reduce_124 : decode cX3_reduce 124 = .ok (.iload 8, 2) := zdcg 15 zdT_dX3_reduce_94 rfl
theorem dX3_reduce_126 : decode cX3_reduce 126 = .ok (.aaload, 1) := zdcg 16 zdT_dX3_reduce_94 rfl
theorem dX3_reduce_127 : decode cX3_reduce 127 = .ok (.iload 5, 2) := zdcg 17 zdT_dX3_reduce_94 rfl
theorem dX3_reduce_129 : decode cX3_reduce 129 = .ok (.iaload, 1) := zdcg 18 zdT_dX3_reduce_94 rfl
theorem dX3_reduce_130 : decode cX3_reduce 130 = .ok (.ifCond .eq 27, 3) := zdcg 19 zdT_dX3_reduce_94 rfl
theorem dX3_reduce_133 : decode cX3_reduce 133 = .ok (.aload_n 0, 1) := zdcg 20 zdT_dX3_reduce_94 rfl
theorem dX3_reduce_134 : decode cX3_reduce 134 = .ok (.aload_n 0, 1) := zdcg 21 zdT_dX3_reduce_94 rfl
theorem dX3_reduce_135 : decode cX3_reduce 135 = .ok (.getfield 15, 3) := zdcg 22 zdT_dX3_reduce_94 rfl
theorem dX3_reduce_138 : decode cX3_reduce 138 = .ok (.iload 8, 2) := zdcg 23 zdT_dX3_reduce_94 rfl
theorem dX3_reduce_140 : decode cX3_reduce 140 = .ok (.aaload, 1) := zdcg 24 zdT_dX3_reduce_94 rfl
theorem zdT_dX3_reduce_141 : zdch cX3_reduce [(141, (.aload_n 0, 1)), (142, (.getfield 15, 3)), (145, (.iload 8, 2)), (147, (.aaload, 1)), (148, (.iload 5, 2)), (150, (.iaload, 1)), (151, (.aload 7, 2)), (153, (.iload_n 3, 1)), (154, (.invokevirtual 32, 3)), (157, (.iinc 8 1, 3)), (160, (.goto (-53), 3)), (163, (.iinc 4 1, 3)), (166, (.iinc 5 1, 3)), (169, (.goto (-163), 3)), (172, (.iload 4, 2)), (174, (.ireturn, 1))] = true := by decide +kernel
theorem dX3_reduce_141 : decode cX3_reduce 141 = .ok (.aload_n 0, 1) := zdcg 0 zdT_dX3_reduce_141 rfl
theorem dX3_reduce_142 : decode cX3_reduce 142 = .ok (.getfield 15, 3) := zdcg 1 zdT_dX3_reduce_141 rfl
theorem dX3_reduce_145 : decode cX3_reduce 145 = .ok (.iload 8, 2) := zdcg 2 zdT_dX3_reduce_141 rfl
theorem dX3_reduce_147 : decode cX3_reduce 147 = .ok (.aaload, 1) := zdcg 3 zdT_dX3_reduce_141 rfl
theorem dX3_reduce_148 : decode cX3_reduce 148 = .ok (.iload 5, 2) := zdcg 4 zdT_dX3_reduce_141 rfl
theorem dX3_reduce_150 : decode cX3_reduce 150 = .ok (.iaload, 1) := zdcg 5 zdT_dX3_reduce_141 rfl
theorem dX3_reduce_151 : decode cX3_reduce 151 = .ok (.aload 7, 2) := zdcg 6 zdT_dX3_reduce_141 rfl
theorem dX3_reduce_153 : decode cX3_reduce 153 = .ok (.iload_n 3, 1) := zdcg 7 zdT_dX3_reduce_141 rfl
theorem dX3_reduce_154 : decode cX3_reduce 154 = .ok (.invokevirtual 32, 3) := zdcg 8 zdT_dX3_reduce_141 rfl
theorem dX3_reduce_157 : decode cX3_reduce 157 = .ok (.iinc 8 1, 3) := zdcg 9 zdT_dX3_reduce_141 rfl
theorem dX3_reduce_160 : decode cX3_reduce 160 = .ok (.goto (-53), 3) := zdcg 10 zdT_dX3_reduce_141 rfl
theorem dX3_reduce_163 : decode cX3_reduce 163 = .ok (.iinc 4 1, 3) := zdcg 11 zdT_dX3_reduce_141 rfl
theorem dX3_reduce_166 : decode cX3_reduce 166 = .ok (.iinc 5 1, 3) := zdcg 12 zdT_dX3_reduce_141 rfl
theorem dX3_reduce_169 : decode cX3_reduce 169 = .ok (.goto (-163), 3) := zdcg 13 zdT_dX3_reduce_141 rfl
theorem dX3_reduce_172 : decode cX3_reduce 172 = .ok (.iload 4, 2) := zdcg 14 zdT_dX3_reduce_141 rfl
theorem dX3_reduce_174 : decode cX3_reduce 174 = .ok (.ireturn, 1) := zdcg 15 zdT_dX3_reduce_141 rfl
theorem zdT_dX3_scale_0 : zdch cX3_scale [(0, (.iconst 0, 1)), (1, (.istore 4, 2)), (3, (.iload 4, 2)), (5, (.iload_n 3, 1)), (6, (.if_icmp .ge 24, 3)), (9, (.aload_n 1, 1)), (10, (.iload 4, 2)), (12, (.aload_n 1, 1)), (13, (.iload 4, 2)), (15, (.iaload, 1)), (16, (.iload_n 2, 1)), (17, (.imul, 1)), (18, (.aload_n 0, 1)), (19, (.getfield 7, 3)), (22, (.irem, 1)), (23, (.iastore, 1)), (24, (.iinc 4 1, 3)), (27, (.goto (-24), 3)), (30, (.return_, 1))] = true := by decide +kernel
theorem dX3_scale_0 : decode cX3_scale 0 = .ok (.iconst 0, 1) := zdcg 0 zdT_dX3_scale_0 rfl
theorem dX3_scale_1 : decode cX3_scale 1 = .ok (.istore 4, 2) := zdcg 1 zdT_dX3_scale_0 rfl
theorem dX3_scale_3 : decode cX3_scale 3 = .ok (.iload 4, 2) := zdcg 2 zdT_dX3_scale_0 rfl
theorem dX3_scale_5 : decode cX3_scale 5 = .ok (.iload_n 3, 1) := zdcg 3 zdT_dX3_scale_0 rfl
theorem dX3_scale_6 : decode cX3_scale 6 = .ok (.if_icmp .ge 24, 3) := zdcg 4 zdT_dX3_scale_0 rfl
theorem dX3_scale_9 : decode cX3_scale 9 = .ok (.aload_n 1, 1) := zdcg 5 zdT_dX3_scale_0 rfl
theorem dX3_scale_10 : decode cX3_scale 10 = .ok (.iload 4, 2) := zdcg 6 zdT_dX3_scale_0 rfl
theorem dX3_scale_12 : decode cX3_scale 12 = .ok (.aload_n 1, 1) := zdcg 7 zdT_dX3_scale_0 rfl
theorem dX3_scale_13 : decode cX3_scale 13 = .ok (.iload 4, 2) := zdcg 8 zdT_dX3_scale_0 rfl
theorem dX3_scale_15 : decode cX3_scale 15 = .ok (.iaload, 1) := zdcg 9 zdT_dX3_scale_0 rfl
theorem dX3_scale_16 : decode cX3_scale 16 = .ok (.iload_n 2, 1) := zdcg 10 zdT_dX3_scale_0 rfl
theorem dX3_scale_17 : decode cX3_scale 17 = .ok (.imul, 1) := zdcg 11 zdT_dX3_scale_0 rfl
theorem dX3_scale_18 : decode cX3_scale 18 = .ok (.aload_n 0, 1) := zdcg 12 zdT_dX3_scale_0 rfl
theorem dX3_scale_19 : decode cX3_scale 19 = .ok (.getfield 7, 3) := zdcg 13 zdT_dX3_scale_0 rfl
theorem dX3_scale_22 : decode cX3_scale 22 = .ok (.irem, 1) := zdcg 14 zdT_dX3_scale_0 rfl
theorem dX3_scale_23 : decode cX3_scale 23 = .ok (.iastore, 1) := zdcg 15 zdT_dX3_scale_0 rfl
theorem dX3_scale_24 : decode cX3_scale 24 = .ok (.iinc 4 1, 3) := zdcg 16 zdT_dX3_scale_0 rfl
theorem dX3_scale_27 : decode cX3_scale 27 = .ok (.goto (-24), 3) := zdcg 17 zdT_dX3_scale_0 rfl
theorem dX3_scale_30 : decode cX3_scale 30 = .ok (.return_, 1) := zdcg 18 zdT_dX3_scale_0 rfl
theorem zdT_dX3_takeAway_0 : zdch cX3_takeAway [(0, (.aload_n 0, 1)), (1, (.getfield 7, 3)), (4, (.iload_n 2, 1)), (5, (.isub, 1)), (6, (.istore 5, 2)), (8, (.iconst 0, 1)), (9, (.istore 6, 2)), (11, (.iload 6, 2)), (13, (.iload 4, 2)), (15, (.if_icmp .ge 30, 3)), (18, (.aload_n 1, 1)), (19, (.iload 6, 2)), (21, (.aload_n 1, 1)), (22, (.iload 6, 2)), (24, (.iaload, 1)), (25, (.iload 5, 2)), (27, (.aload_n 3, 1)), (28, (.iload 6, 2)), (30, (.iaload, 1)), (31, (.imul, 1)), (32, (.iadd, 1)), (33, (.aload_n 0, 1)), (34, (.getfield 7, 3)), (37, (.irem, 1)), (38, (.iastore, 1))] = true := by decide +kernel
theorem dX3_takeAway_0 : decode cX3_takeAway 0 = .ok (.aload_n 0, 1) := zdcg 0 zdT_dX3_takeAway_0 rfl
theorem dX3_takeAway_1 : decode cX3_takeAway 1 = .ok (.getfield 7, 3) := zdcg 1 zdT_dX3_takeAway_0 rfl
theorem dX3_takeAway_4 : decode cX3_takeAway 4 = .ok (.iload_n 2, 1) := zdcg 2 zdT_dX3_takeAway_0 rfl
theorem dX3_takeAway_5 : decode cX3_takeAway 5 = .ok (.isub, 1) := zdcg 3 zdT_dX3_takeAway_0 rfl
theorem dX3_takeAway_6 : decode cX3_takeAway 6 = .ok (.istore 5, 2) := zdcg 4 zdT_dX3_takeAway_0 rfl
theorem dX3_takeAway_8 : decode cX3_takeAway 8 = .ok (.iconst 0, 1) := zdcg 5 zdT_dX3_takeAway_0 rfl
theorem dX3_takeAway_9 : decode cX3_takeAway 9 = .ok (.istore 6, 2) := zdcg 6 zdT_dX3_takeAway_0 rfl
theorem dX3_takeAway_11 : decode cX3_takeAway 11 = .ok (.iload 6, 2) := zdcg 7 zdT_dX3_takeAway_0 rfl
theorem dX3_takeAway_13 : decode cX3_takeAway 13 = .ok (.iload 4, 2) := zdcg 8 zdT_dX3_takeAway_0 rfl
theorem dX3_takeAway_15 : decode cX3_takeAway 15 = .ok (.if_icmp .ge 30, 3) := zdcg 9 zdT_dX3_takeAway_0 rfl
theorem dX3_takeAway_18 : decode cX3_takeAway 18 = .ok (.aload_n 1, 1) := zdcg 10 zdT_dX3_takeAway_0 rfl
theorem dX3_takeAway_19 : decode cX3_takeAway 19 = .ok (.iload 6, 2) := zdcg 11 zdT_dX3_takeAway_0 rfl
theorem dX3_takeAway_21 : decode cX3_takeAway 21 = .ok (.aload_n 1, 1) := zdcg 12 zdT_dX3_takeAway_0 rfl
theorem dX3_takeAway_22 : decode cX3_takeAway 22 = .ok (.iload 6, 2) := zdcg 13 zdT_dX3_takeAway_0 rfl
theorem dX3_takeAway_24 : decode cX3_takeAway 24 = .ok (.iaload, 1) := zdcg 14 zdT_dX3_takeAway_0 rfl
theorem dX3_takeAway_25 : decode cX3_takeAway 25 = .ok (.iload 5, 2) := zdcg 15 zdT_dX3_takeAway_0 rfl
theorem dX3_takeAway_27 : decode cX3_takeAway 27 = .ok (.aload_n 3, 1) := zdcg 16 zdT_dX3_takeAway_0 rfl
theorem dX3_takeAway_28 : decode cX3_takeAway 28 = .ok (.iload 6, 2) := zdcg 17 zdT_dX3_takeAway_0 rfl
theorem dX3_takeAway_30 : decode cX3_takeAway 30 = .ok (.iaload, 1) := zdcg 18 zdT_dX3_takeAway_0 rfl
theorem dX3_takeAway_31 : decode cX3_takeAway 31 = .ok (.imul, 1) := zdcg 19 zdT_dX3_takeAway_0 rfl
theorem dX3_takeAway_32 : decode cX3_takeAway 32 = .ok (.iadd, 1) := zdcg 20 zdT_dX3_takeAway_0 rfl
theorem dX3_takeAway_33 : decode cX3_takeAway 33 = .ok (.aload_n 0, 1) := zdcg 21 zdT_dX3_takeAway_0 rfl
theorem dX3_takeAway_34 : decode cX3_takeAway 34 = .ok (.getfield 7, 3) := zdcg 22 zdT_dX3_takeAway_0 rfl
theorem dX3_takeAway_37 : decode cX3_takeAway 37 = .ok (.irem, 1) := zdcg 23 zdT_dX3_takeAway_0 rfl
theorem dX3_takeAway_38 : decode cX3_takeAway 38 = .ok (.iastore, 1) := zdcg 24 zdT_dX3_takeAway_0 rfl
theorem zdT_dX3_takeAway_39 : zdch cX3_takeAway [(39, (.iinc 6 1, 3)), (42, (.goto (-31), 3)), (45, (.return_, 1))] = true := by decide +kernel
theorem dX3_takeAway_39 : decode cX3_takeAway 39 = .ok (.iinc 6 1, 3) := zdcg 0 zdT_dX3_takeAway_39 rfl
theorem dX3_takeAway_42 : decode cX3_takeAway 42 = .ok (.goto (-31), 3) := zdcg 1 zdT_dX3_takeAway_39 rfl
theorem dX3_takeAway_45 : decode cX3_takeAway 45 = .ok (.return_, 1) := zdcg 2 zdT_dX3_takeAway_39 rfl
theorem zdT_dX3_inverse_0 : zdch cX3_inverse [(0, (.iconst 1, 1)), (1, (.istore_n 2, 1)), (2, (.iload_n 1, 1)), (3, (.istore_n 3, 1)), (4, (.aload_n 0, 1)), (5, (.getfield 7, 3)), (8, (.iconst 2, 1)), (9, (.isub, 1)), (10, (.istore 4, 2)), (12, (.iload 4, 2)), (14, (.ifCond .le 38, 3)), (17, (.iload 4, 2)), (19, (.iconst 1, 1)), (20, (.iand, 1)), (21, (.iconst 1, 1)), (22, (.if_icmp .ne 12, 3)), (25, (.iload_n 2, 1)), (26, (.iload_n 3, 1)), (27, (.imul, 1)), (28, (.aload_n 0, 1)), (29, (.getfield 7, 3)), (32, (.irem, 1)), (33, (.istore_n 2, 1)), (34, (.iload_n 3, 1)), (35, (.iload_n 3, 1))] = true := by decide +kernel
theorem dX3_inverse_0 : decode cX3_inverse 0 = .ok (.iconst 1, 1) := zdcg 0 zdT_dX3_inverse_0 rfl
theorem dX3_inverse_1 : decode cX3_inverse 1 = .ok (.istore_n 2, 1) := zdcg 1 zdT_dX3_inverse_0 rfl
theorem dX3_inverse_2 : decode cX3_inverse 2 = .ok (.iload_n 1, 1) := zdcg 2 zdT_dX3_inverse_0 rfl
theorem dX3_inverse_3 : decode cX3_inverse 3 = .ok (.istore_n 3, 1) := zdcg 3 zdT_dX3_inverse_0 rfl
theorem dX3_inverse_4 : decode cX3_inverse 4 = .ok (.aload_n 0, 1) := zdcg 4 zdT_dX3_inverse_0 rfl
theorem dX3_inverse_5 : decode cX3_inverse 5 = .ok (.getfield 7, 3) := zdcg 5 zdT_dX3_inverse_0 rfl
theorem dX3_inverse_8 : decode cX3_inverse 8 = .ok (.iconst 2, 1) := zdcg 6 zdT_dX3_inverse_0 rfl
theorem dX3_inverse_9 : decode cX3_inverse 9 = .ok (.isub, 1) := zdcg 7 zdT_dX3_inverse_0 rfl
theorem dX3_inverse_10 : decode cX3_inverse 10 = .ok (.istore 4, 2) := zdcg 8 zdT_dX3_inverse_0 rfl
theorem dX3_inverse_12 : decode cX3_inverse 12 = .ok (.iload 4, 2) := zdcg 9 zdT_dX3_inverse_0 rfl
theorem dX3_inverse_14 : decode cX3_inverse 14 = .ok (.ifCond .le 38, 3) := zdcg 10 zdT_dX3_inverse_0 rfl
theorem dX3_inverse_17 : decode cX3_inverse 17 = .ok (.iload 4, 2) := zdcg 11 zdT_dX3_inverse_0 rfl
theorem dX3_inverse_19 : decode cX3_inverse 19 = .ok (.iconst 1, 1) := zdcg 12 zdT_dX3_inverse_0 rfl
theorem dX3_inverse_20 : decode cX3_inverse 20 = .ok (.iand, 1) := zdcg 13 zdT_dX3_inverse_0 rfl
theorem dX3_inverse_21 : decode cX3_inverse 21 = .ok (.iconst 1, 1) := zdcg 14 zdT_dX3_inverse_0 rfl
theorem dX3_inverse_22 : decode cX3_inverse 22 = .ok (.if_icmp .ne 12, 3) := zdcg 15 zdT_dX3_inverse_0 rfl
theorem dX3_inverse_25 : decode cX3_inverse 25 = .ok (.iload_n 2, 1) := zdcg 16 zdT_dX3_inverse_0 rfl
theorem dX3_inverse_26 : decode cX3_inverse 26 = .ok (.iload_n 3, 1) := zdcg 17 zdT_dX3_inverse_0 rfl
theorem dX3_inverse_27 : decode cX3_inverse 27 = .ok (.imul, 1) := zdcg 18 zdT_dX3_inverse_0 rfl
theorem dX3_inverse_28 : decode cX3_inverse 28 = .ok (.aload_n 0, 1) := zdcg 19 zdT_dX3_inverse_0 rfl
theorem dX3_inverse_29 : decode cX3_inverse 29 = .ok (.getfield 7, 3) := zdcg 20 zdT_dX3_inverse_0 rfl
theorem dX3_inverse_32 : decode cX3_inverse 32 = .ok (.irem, 1) := zdcg 21 zdT_dX3_inverse_0 rfl
theorem dX3_inverse_33 : decode cX3_inverse 33 = .ok (.istore_n 2, 1) := zdcg 22 zdT_dX3_inverse_0 rfl
theorem dX3_inverse_34 : decode cX3_inverse 34 = .ok (.iload_n 3, 1) := zdcg 23 zdT_dX3_inverse_0 rfl
theorem dX3_inverse_35 : decode cX3_inverse 35 = .ok (.iload_n 3, 1) := zdcg 24 zdT_dX3_inverse_0 rfl
theorem zdT_dX3_inverse_36 : zdch cX3_inverse [(36, (.imul, 1)), (37, (.aload_n 0, 1)), (38, (.getfield 7, 3)), (41, (.irem, 1)), (42, (.istore_n 3, 1)), (43, (.iload 4, 2)), (45, (.iconst 1, 1)), (46, (.ishr, 1)), (47, (.istore 4, 2)), (49, (.goto (-37), 3)), (52, (.iload_n 2, 1)), (53, (.ireturn, 1))] = true := by decide +kernel
theorem dX3_inverse_36 : decode cX3_inverse 36 = .ok (.imul, 1) := zdcg 0 zdT_dX3_inverse_36 rfl
theorem dX3_inverse_37 : decode cX3_inverse 37 = .ok (.aload_n 0, 1) := zdcg 1 zdT_dX3_inverse_36 rfl
theorem dX3_inverse_38 : decode cX3_inverse 38 = .ok (.getfield 7, 3) := zdcg 2 zdT_dX3_inverse_36 rfl
theorem dX3_inverse_41 : decode cX3_inverse 41 = .ok (.irem, 1) := zdcg 3 zdT_dX3_inverse_36 rfl
theorem dX3_inverse_42 : decode cX3_inverse 42 = .ok (.istore_n 3, 1) := zdcg 4 zdT_dX3_inverse_36 rfl
theorem dX3_inverse_43 : decode cX3_inverse 43 = .ok (.iload 4, 2) := zdcg 5 zdT_dX3_inverse_36 rfl
theorem dX3_inverse_45 : decode cX3_inverse 45 = .ok (.iconst 1, 1) := zdcg 6 zdT_dX3_inverse_36 rfl
theorem dX3_inverse_46 : decode cX3_inverse 46 = .ok (.ishr, 1) := zdcg 7 zdT_dX3_inverse_36 rfl
theorem dX3_inverse_47 : decode cX3_inverse 47 = .ok (.istore 4, 2) := zdcg 8 zdT_dX3_inverse_36 rfl
theorem dX3_inverse_49 : decode cX3_inverse 49 = .ok (.goto (-37), 3) := zdcg 9 zdT_dX3_inverse_36 rfl
theorem dX3_inverse_52 : decode cX3_inverse 52 = .ok (.iload_n 2, 1) := zdcg 10 zdT_dX3_inverse_36 rfl
theorem dX3_inverse_53 : decode cX3_inverse 53 = .ok (.ireturn, 1) := zdcg 11 zdT_dX3_inverse_36 rfl
theorem zdT_dX4_init_0 : zdch cX4_init [(0, (.aload_n 0, 1)), (1, (.invokespecial 1, 3)), (4, (.aload_n 0, 1)), (5, (.iload_n 3, 1)), (6, (.putfield 7, 3)), (9, (.aload_n 0, 1)), (10, (.iload_n 2, 1)), (11, (.putfield 13, 3)), (14, (.aload_n 0, 1)), (15, (.aload_n 1, 1)), (16, (.iload_n 2, 1)), (17, (.invokestatic 16, 3)), (20, (.putfield 22, 3)), (23, (.aload_n 0, 1)), (24, (.aload_n 0, 1)), (25, (.getfield 22, 3)), (28, (.iconst 0, 1)), (29, (.iaload, 1)), (30, (.newarray .int, 2)), (32, (.putfield 26, 3)), (35, (.aload_n 0, 1)), (36, (.aload_n 0, 1)), (37, (.getfield 13, 3)), (40, (.newarray .int, 2)), (42, (.putfield 29, 3))] = true := by decide +kernel
theorem dX4_init_0 : decode cX4_init 0 = .ok (.aload_n 0, 1) := zdcg 0 zdT_dX4_init_0 rfl
theorem dX4_init_1 : decode cX4_init 1 = .ok (.invokespecial 1, 3) := zdcg 1 zdT_dX4_init_0 rfl
theorem dX4_init_4 : decode cX4_init 4 = .ok (.aload_n 0, 1) := zdcg 2 zdT_dX4_init_0 rfl
theorem dX4_init_5 : decode cX4_init 5 = .ok (.iload_n 3, 1) := zdcg 3 zdT_dX4_init_0 rfl
theorem dX4_init_6 : decode cX4_init 6 = .ok (.putfield 7, 3) := zdcg 4 zdT_dX4_init_0 rfl
theorem dX4_init_9 : decode cX4_init 9 = .ok (.aload_n 0, 1) := zdcg 5 zdT_dX4_init_0 rfl
theorem dX4_init_10 : decode cX4_init 10 = .ok (.iload_n 2, 1) := zdcg 6 zdT_dX4_init_0 rfl
theorem dX4_init_11 : decode cX4_init 11 = .ok (.putfield 13, 3) := zdcg 7 zdT_dX4_init_0 rfl
theorem dX4_init_14 : decode cX4_init 14 = .ok (.aload_n 0, 1) := zdcg 8 zdT_dX4_init_0 rfl
theorem dX4_init_15 : decode cX4_init 15 = .ok (.aload_n 1, 1) := zdcg 9 zdT_dX4_init_0 rfl
theorem dX4_init_16 : decode cX4_init 16 = .ok (.iload_n 2, 1) := zdcg 10 zdT_dX4_init_0 rfl
theorem dX4_init_17 : decode cX4_init 17 = .ok (.invokestatic 16, 3) := zdcg 11 zdT_dX4_init_0 rfl
theorem dX4_init_20 : decode cX4_init 20 = .ok (.putfield 22, 3) := zdcg 12 zdT_dX4_init_0 rfl
theorem dX4_init_23 : decode cX4_init 23 = .ok (.aload_n 0, 1) := zdcg 13 zdT_dX4_init_0 rfl
theorem dX4_init_24 : decode cX4_init 24 = .ok (.aload_n 0, 1) := zdcg 14 zdT_dX4_init_0 rfl
theorem dX4_init_25 : decode cX4_init 25 = .ok (.getfield 22, 3) := zdcg 15 zdT_dX4_init_0 rfl
theorem dX4_init_28 : decode cX4_init 28 = .ok (.iconst 0, 1) := zdcg 16 zdT_dX4_init_0 rfl
theorem dX4_init_29 : decode cX4_init 29 = .ok (.iaload, 1) := zdcg 17 zdT_dX4_init_0 rfl
theorem dX4_init_30 : decode cX4_init 30 = .ok (.newarray .int, 2) := zdcg 18 zdT_dX4_init_0 rfl
theorem dX4_init_32 : decode cX4_init 32 = .ok (.putfield 26, 3) := zdcg 19 zdT_dX4_init_0 rfl
theorem dX4_init_35 : decode cX4_init 35 = .ok (.aload_n 0, 1) := zdcg 20 zdT_dX4_init_0 rfl
theorem dX4_init_36 : decode cX4_init 36 = .ok (.aload_n 0, 1) := zdcg 21 zdT_dX4_init_0 rfl
theorem dX4_init_37 : decode cX4_init 37 = .ok (.getfield 13, 3) := zdcg 22 zdT_dX4_init_0 rfl
theorem dX4_init_40 : decode cX4_init 40 = .ok (.newarray .int, 2) := zdcg 23 zdT_dX4_init_0 rfl
theorem dX4_init_42 : decode cX4_init 42 = .ok (.putfield 29, 3) := zdcg 24 zdT_dX4_init_0 rfl
theorem zdT_dX4_init_45 : zdch cX4_init [(45, (.aload_n 0, 1)), (46, (.invokevirtual 32, 3)), (49, (.aload_n 0, 1)), (50, (.aload_n 0, 1)), (51, (.invokevirtual 35, 3)), (54, (.putfield 39, 3)), (57, (.aload_n 0, 1)), (58, (.iload_n 3, 1)), (59, (.newarray .int, 2)), (61, (.putfield 42, 3)), (64, (.aload_n 0, 1)), (65, (.iload_n 3, 1)), (66, (.iconst 1, 1)), (67, (.iadd, 1)), (68, (.newarray .int, 2)), (70, (.putfield 45, 3)), (73, (.aload_n 0, 1)), (74, (.aload_n 0, 1)), (75, (.getfield 39, 3)), (78, (.iload_n 3, 1)), (79, (.multianewarray 48 2, 4)), (83, (.putfield 50, 3)), (86, (.aload_n 0, 1)), (87, (.iconst 0, 1)), (88, (.iconst 0, 1))] = true := by decide +kernel
theorem dX4_init_45 : decode cX4_init 45 = .ok (.aload_n 0, 1) := zdcg 0 zdT_dX4_init_45 rfl
theorem dX4_init_46 : decode cX4_init 46 = .ok (.invokevirtual 32, 3) := zdcg 1 zdT_dX4_init_45 rfl
theorem dX4_init_49 : decode cX4_init 49 = .ok (.aload_n 0, 1) := zdcg 2 zdT_dX4_init_45 rfl
theorem dX4_init_50 : decode cX4_init 50 = .ok (.aload_n 0, 1) := zdcg 3 zdT_dX4_init_45 rfl
theorem dX4_init_51 : decode cX4_init 51 = .ok (.invokevirtual 35, 3) := zdcg 4 zdT_dX4_init_45 rfl
theorem dX4_init_54 : decode cX4_init 54 = .ok (.putfield 39, 3) := zdcg 5 zdT_dX4_init_45 rfl
theorem dX4_init_57 : decode cX4_init 57 = .ok (.aload_n 0, 1) := zdcg 6 zdT_dX4_init_45 rfl
theorem dX4_init_58 : decode cX4_init 58 = .ok (.iload_n 3, 1) := zdcg 7 zdT_dX4_init_45 rfl
theorem dX4_init_59 : decode cX4_init 59 = .ok (.newarray .int, 2) := zdcg 8 zdT_dX4_init_45 rfl
theorem dX4_init_61 : decode cX4_init 61 = .ok (.putfield 42, 3) := zdcg 9 zdT_dX4_init_45 rfl
theorem dX4_init_64 : decode cX4_init 64 = .ok (.aload_n 0, 1) := zdcg 10 zdT_dX4_init_45 rfl
theorem dX4_init_65 : decode cX4_init 65 = .ok (.iload_n 3, 1) := zdcg 11 zdT_dX4_init_45 rfl
theorem dX4_init_66 : decode cX4_init 66 = .ok (.iconst 1, 1) := zdcg 12 zdT_dX4_init_45 rfl
theorem dX4_init_67 : decode cX4_init 67 = .ok (.iadd, 1) := zdcg 13 zdT_dX4_init_45 rfl
theorem dX4_init_68 : decode cX4_init 68 = .ok (.newarray .int, 2) := zdcg 14 zdT_dX4_init_45 rfl
theorem dX4_init_70 : decode cX4_init 70 = .ok (.putfield 45, 3) := zdcg 15 zdT_dX4_init_45 rfl
theorem dX4_init_73 : decode cX4_init 73 = .ok (.aload_n 0, 1) := zdcg 16 zdT_dX4_init_45 rfl
theorem dX4_init_74 : decode cX4_init 74 = .ok (.aload_n 0, 1) := zdcg 17 zdT_dX4_init_45 rfl
theorem dX4_init_75 : decode cX4_init 75 = .ok (.getfield 39, 3) := zdcg 18 zdT_dX4_init_45 rfl
theorem dX4_init_78 : decode cX4_init 78 = .ok (.iload_n 3, 1) := zdcg 19 zdT_dX4_init_45 rfl
theorem dX4_init_79 : decode cX4_init 79 = .ok (.multianewarray 48 2, 4) := zdcg 20 zdT_dX4_init_45 rfl
theorem dX4_init_83 : decode cX4_init 83 = .ok (.putfield 50, 3) := zdcg 21 zdT_dX4_init_45 rfl
theorem dX4_init_86 : decode cX4_init 86 = .ok (.aload_n 0, 1) := zdcg 22 zdT_dX4_init_45 rfl
theorem dX4_init_87 : decode cX4_init 87 = .ok (.iconst 0, 1) := zdcg 23 zdT_dX4_init_45 rfl
theorem dX4_init_88 : decode cX4_init 88 = .ok (.iconst 0, 1) := zdcg 24 zdT_dX4_init_45 rfl
theorem zdT_dX4_init_89 : zdch cX4_init [(89, (.invokevirtual 53, 3)), (92, (.aload_n 0, 1)), (93, (.aload_n 0, 1)), (94, (.invokevirtual 57, 3)), (97, (.putfield 60, 3)), (100, (.aload_n 0, 1)), (101, (.aload_n 0, 1)), (102, (.getfield 60, 3)), (105, (.iload_n 3, 1)), (106, (.imul, 1)), (107, (.newarray .int, 2)), (109, (.putfield 63, 3)), (112, (.aload_n 0, 1)), (113, (.aload_n 0, 1)), (114, (.getfield 60, 3)), (117, (.newarray .int, 2)), (119, (.putfield 66, 3)), (122, (.aload_n 0, 1)), (123, (.iconst 0, 1)), (124, (.putfield 69, 3)), (127, (.aload_n 0, 1)), (128, (.getfield 45, 3)), (131, (.iconst 0, 1)), (132, (.invokestatic 72, 3)), (135, (.aload_n 0, 1))] = true := by decide +kernel
theorem dX4_init_89 : decode cX4_init 89 = .ok (.invokevirtual 53, 3) := zdcg 0 zdT_dX4_init_89 rfl
theorem dX4_init_92 : decode cX4_init 92 = .ok (.aload_n 0, 1) := zdcg 1 zdT_dX4_init_89 rfl
theorem dX4_init_93 : decode cX4_init 93 = .ok (.aload_n 0, 1) := zdcg 2 zdT_dX4_init_89 rfl
theorem dX4_init_94 : decode cX4_init 94 = .ok (.invokevirtual 57, 3) := zdcg 3 zdT_dX4_init_89 rfl
theorem dX4_init_97 : decode cX4_init 97 = .ok (.putfield 60, 3) := zdcg 4 zdT_dX4_init_89 rfl
theorem dX4_init_100 : decode cX4_init 100 = .ok (.aload_n 0, 1) := zdcg 5 zdT_dX4_init_89 rfl
theorem dX4_init_101 : decode cX4_init 101 = .ok (.aload_n 0, 1) := zdcg 6 zdT_dX4_init_89 rfl
theorem dX4_init_102 : decode cX4_init 102 = .ok (.getfield 60, 3) := zdcg 7 zdT_dX4_init_89 rfl
theorem dX4_init_105 : decode cX4_init 105 = .ok (.iload_n 3, 1) := zdcg 8 zdT_dX4_init_89 rfl
theorem dX4_init_106 : decode cX4_init 106 = .ok (.imul, 1) := zdcg 9 zdT_dX4_init_89 rfl
theorem dX4_init_107 : decode cX4_init 107 = .ok (.newarray .int, 2) := zdcg 10 zdT_dX4_init_89 rfl
theorem dX4_init_109 : decode cX4_init 109 = .ok (.putfield 63, 3) := zdcg 11 zdT_dX4_init_89 rfl
theorem dX4_init_112 : decode cX4_init 112 = .ok (.aload_n 0, 1) := zdcg 12 zdT_dX4_init_89 rfl
theorem dX4_init_113 : decode cX4_init 113 = .ok (.aload_n 0, 1) := zdcg 13 zdT_dX4_init_89 rfl
theorem dX4_init_114 : decode cX4_init 114 = .ok (.getfield 60, 3) := zdcg 14 zdT_dX4_init_89 rfl
theorem dX4_init_117 : decode cX4_init 117 = .ok (.newarray .int, 2) := zdcg 15 zdT_dX4_init_89 rfl
theorem dX4_init_119 : decode cX4_init 119 = .ok (.putfield 66, 3) := zdcg 16 zdT_dX4_init_89 rfl
theorem dX4_init_122 : decode cX4_init 122 = .ok (.aload_n 0, 1) := zdcg 17 zdT_dX4_init_89 rfl
theorem dX4_init_123 : decode cX4_init 123 = .ok (.iconst 0, 1) := zdcg 18 zdT_dX4_init_89 rfl
theorem dX4_init_124 : decode cX4_init 124 = .ok (.putfield 69, 3) := zdcg 19 zdT_dX4_init_89 rfl
theorem dX4_init_127 : decode cX4_init 127 = .ok (.aload_n 0, 1) := zdcg 20 zdT_dX4_init_89 rfl
theorem dX4_init_128 : decode cX4_init 128 = .ok (.getfield 45, 3) := zdcg 21 zdT_dX4_init_89 rfl
theorem dX4_init_131 : decode cX4_init 131 = .ok (.iconst 0, 1) := zdcg 22 zdT_dX4_init_89 rfl
theorem dX4_init_132 : decode cX4_init 132 = .ok (.invokestatic 72, 3) := zdcg 23 zdT_dX4_init_89 rfl
theorem dX4_init_135 : decode cX4_init 135 = .ok (.aload_n 0, 1) := zdcg 24 zdT_dX4_init_89 rfl
theorem zdT_dX4_init_136 : zdch cX4_init [(136, (.iconst 0, 1)), (137, (.iconst 0, 1)), (138, (.iconst 1, 1)), (139, (.invokevirtual 76, 3)), (142, (.aload_n 0, 1)), (143, (.iload_n 3, 1)), (144, (.iconst 1, 1)), (145, (.iadd, 1)), (146, (.newarray .int, 2)), (148, (.putfield 80, 3)), (151, (.aload_n 0, 1)), (152, (.invokevirtual 83, 3)), (155, (.aload_n 0, 1)), (156, (.aload_n 0, 1)), (157, (.getfield 39, 3)), (160, (.aload_n 0, 1)), (161, (.getfield 60, 3)), (164, (.multianewarray 48 2, 4)), (168, (.putfield 86, 3)), (171, (.aload_n 0, 1)), (172, (.aload_n 0, 1)), (173, (.getfield 39, 3)), (176, (.aload_n 0, 1)), (177, (.getfield 39, 3)), (180, (.multianewarray 48 2, 4))] = true := by decide +kernel
theorem dX4_init_136 : decode cX4_init 136 = .ok (.iconst 0, 1) := zdcg 0 zdT_dX4_init_136 rfl
theorem dX4_init_137 : decode cX4_init 137 = .ok (.iconst 0, 1) := zdcg 1 zdT_dX4_init_136 rfl
theorem dX4_init_138 : decode cX4_init 138 = .ok (.iconst 1, 1) := zdcg 2 zdT_dX4_init_136 rfl
theorem dX4_init_139 : decode cX4_init 139 = .ok (.invokevirtual 76, 3) := zdcg 3 zdT_dX4_init_136 rfl
theorem dX4_init_142 : decode cX4_init 142 = .ok (.aload_n 0, 1) := zdcg 4 zdT_dX4_init_136 rfl
theorem dX4_init_143 : decode cX4_init 143 = .ok (.iload_n 3, 1) := zdcg 5 zdT_dX4_init_136 rfl
theorem dX4_init_144 : decode cX4_init 144 = .ok (.iconst 1, 1) := zdcg 6 zdT_dX4_init_136 rfl
theorem dX4_init_145 : decode cX4_init 145 = .ok (.iadd, 1) := zdcg 7 zdT_dX4_init_136 rfl
theorem dX4_init_146 : decode cX4_init 146 = .ok (.newarray .int, 2) := zdcg 8 zdT_dX4_init_136 rfl
theorem dX4_init_148 : decode cX4_init 148 = .ok (.putfield 80, 3) := zdcg 9 zdT_dX4_init_136 rfl
theorem dX4_init_151 : decode cX4_init 151 = .ok (.aload_n 0, 1) := zdcg 10 zdT_dX4_init_136 rfl
theorem dX4_init_152 : decode cX4_init 152 = .ok (.invokevirtual 83, 3) := zdcg 11 zdT_dX4_init_136 rfl
theorem dX4_init_155 : decode cX4_init 155 = .ok (.aload_n 0, 1) := zdcg 12 zdT_dX4_init_136 rfl
theorem dX4_init_156 : decode cX4_init 156 = .ok (.aload_n 0, 1) := zdcg 13 zdT_dX4_init_136 rfl
theorem dX4_init_157 : decode cX4_init 157 = .ok (.getfield 39, 3) := zdcg 14 zdT_dX4_init_136 rfl
theorem dX4_init_160 : decode cX4_init 160 = .ok (.aload_n 0, 1) := zdcg 15 zdT_dX4_init_136 rfl
theorem dX4_init_161 : decode cX4_init 161 = .ok (.getfield 60, 3) := zdcg 16 zdT_dX4_init_136 rfl
theorem dX4_init_164 : decode cX4_init 164 = .ok (.multianewarray 48 2, 4) := zdcg 17 zdT_dX4_init_136 rfl
theorem dX4_init_168 : decode cX4_init 168 = .ok (.putfield 86, 3) := zdcg 18 zdT_dX4_init_136 rfl
theorem dX4_init_171 : decode cX4_init 171 = .ok (.aload_n 0, 1) := zdcg 19 zdT_dX4_init_136 rfl
theorem dX4_init_172 : decode cX4_init 172 = .ok (.aload_n 0, 1) := zdcg 20 zdT_dX4_init_136 rfl
theorem dX4_init_173 : decode cX4_init 173 = .ok (.getfield 39, 3) := zdcg 21 zdT_dX4_init_136 rfl
theorem dX4_init_176 : decode cX4_init 176 = .ok (.aload_n 0, 1) := zdcg 22 zdT_dX4_init_136 rfl
theorem dX4_init_177 : decode cX4_init 177 = .ok (.getfield 39, 3) := zdcg 23 zdT_dX4_init_136 rfl
theorem dX4_init_180 : decode cX4_init 180 = .ok (.multianewarray 48 2, 4) := zdcg 24 zdT_dX4_init_136 rfl
theorem zdT_dX4_init_184 : zdch cX4_init [(184, (.putfield 89, 3)), (187, (.return_, 1))] = true := by decide +kernel
theorem dX4_init_184 : decode cX4_init 184 = .ok (.putfield 89, 3) := zdcg 0 zdT_dX4_init_184 rfl
theorem dX4_init_187 : decode cX4_init 187 = .ok (.return_, 1) := zdcg 1 zdT_dX4_init_184 rfl
theorem zdT_dX4_hasCell_0 : zdch cX4_hasCell [(0, (.iload_n 1, 1)), (1, (.ifCond .lt 29, 3)), (4, (.iload_n 1, 1)), (5, (.aload_n 0, 1)), (6, (.getfield 13, 3)), (9, (.if_icmp .ge 21, 3)), (12, (.iload_n 2, 1)), (13, (.ifCond .lt 17, 3)), (16, (.iload_n 2, 1)), (17, (.aload_n 0, 1)), (18, (.getfield 22, 3)), (21, (.iload_n 1, 1)), (22, (.iaload, 1)), (23, (.if_icmp .ge 7, 3)), (26, (.iconst 1, 1)), (27, (.goto 4, 3)), (30, (.iconst 0, 1)), (31, (.ireturn, 1))] = true := by decide +kernel
theorem dX4_hasCell_0 : decode cX4_hasCell 0 = .ok (.iload_n 1, 1) := zdcg 0 zdT_dX4_hasCell_0 rfl
theorem dX4_hasCell_1 : decode cX4_hasCell 1 = .ok (.ifCond .lt 29, 3) := zdcg 1 zdT_dX4_hasCell_0 rfl
theorem dX4_hasCell_4 : decode cX4_hasCell 4 = .ok (.iload_n 1, 1) := zdcg 2 zdT_dX4_hasCell_0 rfl
theorem dX4_hasCell_5 : decode cX4_hasCell 5 = .ok (.aload_n 0, 1) := zdcg 3 zdT_dX4_hasCell_0 rfl
theorem dX4_hasCell_6 : decode cX4_hasCell 6 = .ok (.getfield 13, 3) := zdcg 4 zdT_dX4_hasCell_0 rfl
theorem dX4_hasCell_9 : decode cX4_hasCell 9 = .ok (.if_icmp .ge 21, 3) := zdcg 5 zdT_dX4_hasCell_0 rfl
theorem dX4_hasCell_12 : decode cX4_hasCell 12 = .ok (.iload_n 2, 1) := zdcg 6 zdT_dX4_hasCell_0 rfl
theorem dX4_hasCell_13 : decode cX4_hasCell 13 = .ok (.ifCond .lt 17, 3) := zdcg 7 zdT_dX4_hasCell_0 rfl
theorem dX4_hasCell_16 : decode cX4_hasCell 16 = .ok (.iload_n 2, 1) := zdcg 8 zdT_dX4_hasCell_0 rfl
theorem dX4_hasCell_17 : decode cX4_hasCell 17 = .ok (.aload_n 0, 1) := zdcg 9 zdT_dX4_hasCell_0 rfl
theorem dX4_hasCell_18 : decode cX4_hasCell 18 = .ok (.getfield 22, 3) := zdcg 10 zdT_dX4_hasCell_0 rfl
theorem dX4_hasCell_21 : decode cX4_hasCell 21 = .ok (.iload_n 1, 1) := zdcg 11 zdT_dX4_hasCell_0 rfl
theorem dX4_hasCell_22 : decode cX4_hasCell 22 = .ok (.iaload, 1) := zdcg 12 zdT_dX4_hasCell_0 rfl
theorem dX4_hasCell_23 : decode cX4_hasCell 23 = .ok (.if_icmp .ge 7, 3) := zdcg 13 zdT_dX4_hasCell_0 rfl
theorem dX4_hasCell_26 : decode cX4_hasCell 26 = .ok (.iconst 1, 1) := zdcg 14 zdT_dX4_hasCell_0 rfl
theorem dX4_hasCell_27 : decode cX4_hasCell 27 = .ok (.goto 4, 3) := zdcg 15 zdT_dX4_hasCell_0 rfl
theorem dX4_hasCell_30 : decode cX4_hasCell 30 = .ok (.iconst 0, 1) := zdcg 16 zdT_dX4_hasCell_0 rfl
theorem dX4_hasCell_31 : decode cX4_hasCell 31 = .ok (.ireturn, 1) := zdcg 17 zdT_dX4_hasCell_0 rfl
theorem zdT_dX4_hookAt_0 : zdch cX4_hookAt [(0, (.aload_n 0, 1)), (1, (.getfield 22, 3)), (4, (.iload_n 1, 1)), (5, (.iaload, 1)), (6, (.iload_n 2, 1)), (7, (.isub, 1)), (8, (.aload_n 0, 1)), (9, (.getfield 26, 3)), (12, (.iload_n 2, 1)), (13, (.iaload, 1)), (14, (.iadd, 1)), (15, (.iload_n 1, 1)), (16, (.isub, 1)), (17, (.iconst 1, 1)), (18, (.isub, 1)), (19, (.ireturn, 1))] = true := by decide +kernel
theorem dX4_hookAt_0 : decode cX4_hookAt 0 = .ok (.aload_n 0, 1) := zdcg 0 zdT_dX4_hookAt_0 rfl
theorem dX4_hookAt_1 : decode cX4_hookAt 1 = .ok (.getfield 22, 3) := zdcg 1 zdT_dX4_hookAt_0 rfl
theorem dX4_hookAt_4 : decode cX4_hookAt 4 = .ok (.iload_n 1, 1) := zdcg 2 zdT_dX4_hookAt_0 rfl
theorem dX4_hookAt_5 : decode cX4_hookAt 5 = .ok (.iaload, 1) := zdcg 3 zdT_dX4_hookAt_0 rfl
theorem dX4_hookAt_6 : decode cX4_hookAt 6 = .ok (.iload_n 2, 1) := zdcg 4 zdT_dX4_hookAt_0 rfl
theorem dX4_hookAt_7 : decode cX4_hookAt 7 = .ok (.isub, 1) := zdcg 5 zdT_dX4_hookAt_0 rfl
theorem dX4_hookAt_8 : decode cX4_hookAt 8 = .ok (.aload_n 0, 1) := zdcg 6 zdT_dX4_hookAt_0 rfl
theorem dX4_hookAt_9 : decode cX4_hookAt 9 = .ok (.getfield 26, 3) := zdcg 7 zdT_dX4_hookAt_0 rfl
theorem dX4_hookAt_12 : decode cX4_hookAt 12 = .ok (.iload_n 2, 1) := zdcg 8 zdT_dX4_hookAt_0 rfl
theorem dX4_hookAt_13 : decode cX4_hookAt 13 = .ok (.iaload, 1) := zdcg 9 zdT_dX4_hookAt_0 rfl
theorem dX4_hookAt_14 : decode cX4_hookAt 14 = .ok (.iadd, 1) := zdcg 10 zdT_dX4_hookAt_0 rfl
theorem dX4_hookAt_15 : decode cX4_hookAt 15 = .ok (.iload_n 1, 1) := zdcg 11 zdT_dX4_hookAt_0 rfl
theorem dX4_hookAt_16 : decode cX4_hookAt 16 = .ok (.isub, 1) := zdcg 12 zdT_dX4_hookAt_0 rfl
theorem dX4_hookAt_17 : decode cX4_hookAt 17 = .ok (.iconst 1, 1) := zdcg 13 zdT_dX4_hookAt_0 rfl
theorem dX4_hookAt_18 : decode cX4_hookAt 18 = .ok (.isub, 1) := zdcg 14 zdT_dX4_hookAt_0 rfl
theorem dX4_hookAt_19 : decode cX4_hookAt 19 = .ok (.ireturn, 1) := zdcg 15 zdT_dX4_hookAt_0 rfl
theorem zdT_dX4_layOut_0 : zdch cX4_layOut [(0, (.iconst 0, 1)), (1, (.istore_n 1, 1)), (2, (.iconst 0, 1)), (3, (.istore_n 2, 1)), (4, (.iload_n 2, 1)), (5, (.aload_n 0, 1)), (6, (.getfield 13, 3)), (9, (.if_icmp .ge 53, 3)), (12, (.aload_n 0, 1)), (13, (.getfield 29, 3)), (16, (.iload_n 2, 1)), (17, (.iload_n 1, 1)), (18, (.iastore, 1)), (19, (.iload_n 1, 1)), (20, (.aload_n 0, 1)), (21, (.getfield 22, 3)), (24, (.iload_n 2, 1)), (25, (.iaload, 1)), (26, (.iadd, 1)), (27, (.istore_n 1, 1)), (28, (.iconst 0, 1)), (29, (.istore_n 3, 1)), (30, (.iload_n 3, 1)), (31, (.aload_n 0, 1)), (32, (.getfield 22, 3))] = true := by decide +kernel
theorem dX4_layOut_0 : decode cX4_layOut 0 = .ok (.iconst 0, 1) := zdcg 0 zdT_dX4_layOut_0 rfl
theorem dX4_layOut_1 : decode cX4_layOut 1 = .ok (.istore_n 1, 1) := zdcg 1 zdT_dX4_layOut_0 rfl
theorem dX4_layOut_2 : decode cX4_layOut 2 = .ok (.iconst 0, 1) := zdcg 2 zdT_dX4_layOut_0 rfl
theorem dX4_layOut_3 : decode cX4_layOut 3 = .ok (.istore_n 2, 1) := zdcg 3 zdT_dX4_layOut_0 rfl
theorem dX4_layOut_4 : decode cX4_layOut 4 = .ok (.iload_n 2, 1) := zdcg 4 zdT_dX4_layOut_0 rfl
theorem dX4_layOut_5 : decode cX4_layOut 5 = .ok (.aload_n 0, 1) := zdcg 5 zdT_dX4_layOut_0 rfl
theorem dX4_layOut_6 : decode cX4_layOut 6 = .ok (.getfield 13, 3) := zdcg 6 zdT_dX4_layOut_0 rfl
theorem dX4_layOut_9 : decode cX4_layOut 9 = .ok (.if_icmp .ge 53, 3) := zdcg 7 zdT_dX4_layOut_0 rfl
theorem dX4_layOut_12 : decode cX4_layOut 12 = .ok (.aload_n 0, 1) := zdcg 8 zdT_dX4_layOut_0 rfl
theorem dX4_layOut_13 : decode cX4_layOut 13 = .ok (.getfield 29, 3) := zdcg 9 zdT_dX4_layOut_0 rfl
theorem dX4_layOut_16 : decode cX4_layOut 16 = .ok (.iload_n 2, 1) := zdcg 10 zdT_dX4_layOut_0 rfl
theorem dX4_layOut_17 : decode cX4_layOut 17 = .ok (.iload_n 1, 1) := zdcg 11 zdT_dX4_layOut_0 rfl
theorem dX4_layOut_18 : decode cX4_layOut 18 = .ok (.iastore, 1) := zdcg 12 zdT_dX4_layOut_0 rfl
theorem dX4_layOut_19 : decode cX4_layOut 19 = .ok (.iload_n 1, 1) := zdcg 13 zdT_dX4_layOut_0 rfl
theorem dX4_layOut_20 : decode cX4_layOut 20 = .ok (.aload_n 0, 1) := zdcg 14 zdT_dX4_layOut_0 rfl
theorem dX4_layOut_21 : decode cX4_layOut 21 = .ok (.getfield 22, 3) := zdcg 15 zdT_dX4_layOut_0 rfl
theorem dX4_layOut_24 : decode cX4_layOut 24 = .ok (.iload_n 2, 1) := zdcg 16 zdT_dX4_layOut_0 rfl
theorem dX4_layOut_25 : decode cX4_layOut 25 = .ok (.iaload, 1) := zdcg 17 zdT_dX4_layOut_0 rfl
theorem dX4_layOut_26 : decode cX4_layOut 26 = .ok (.iadd, 1) := zdcg 18 zdT_dX4_layOut_0 rfl
theorem dX4_layOut_27 : decode cX4_layOut 27 = .ok (.istore_n 1, 1) := zdcg 19 zdT_dX4_layOut_0 rfl
theorem dX4_layOut_28 : decode cX4_layOut 28 = .ok (.iconst 0, 1) := zdcg 20 zdT_dX4_layOut_0 rfl
theorem dX4_layOut_29 : decode cX4_layOut 29 = .ok (.istore_n 3, 1) := zdcg 21 zdT_dX4_layOut_0 rfl
theorem dX4_layOut_30 : decode cX4_layOut 30 = .ok (.iload_n 3, 1) := zdcg 22 zdT_dX4_layOut_0 rfl
theorem dX4_layOut_31 : decode cX4_layOut 31 = .ok (.aload_n 0, 1) := zdcg 23 zdT_dX4_layOut_0 rfl
theorem dX4_layOut_32 : decode cX4_layOut 32 = .ok (.getfield 22, 3) := zdcg 24 zdT_dX4_layOut_0 rfl
theorem zdT_dX4_layOut_35 : zdch cX4_layOut [(35, (.iload_n 2, 1)), (36, (.iaload, 1)), (37, (.if_icmp .ge 19, 3)), (40, (.aload_n 0, 1)), (41, (.getfield 26, 3)), (44, (.iload_n 3, 1)), (45, (.dup2, 1)), (46, (.iaload, 1)), (47, (.iconst 1, 1)), (48, (.iadd, 1)), (49, (.iastore, 1)), (50, (.iinc 3 1, 3)), (53, (.goto (-23), 3)), (56, (.iinc 2 1, 3)), (59, (.goto (-55), 3)), (62, (.return_, 1))] = true := by decide +kernel
theorem dX4_layOut_35 : decode cX4_layOut 35 = .ok (.iload_n 2, 1) := zdcg 0 zdT_dX4_layOut_35 rfl
theorem dX4_layOut_36 : decode cX4_layOut 36 = .ok (.iaload, 1) := zdcg 1 zdT_dX4_layOut_35 rfl
theorem dX4_layOut_37 : decode cX4_layOut 37 = .ok (.if_icmp .ge 19, 3) := zdcg 2 zdT_dX4_layOut_35 rfl
theorem dX4_layOut_40 : decode cX4_layOut 40 = .ok (.aload_n 0, 1) := zdcg 3 zdT_dX4_layOut_35 rfl
theorem dX4_layOut_41 : decode cX4_layOut 41 = .ok (.getfield 26, 3) := zdcg 4 zdT_dX4_layOut_35 rfl
theorem dX4_layOut_44 : decode cX4_layOut 44 = .ok (.iload_n 3, 1) := zdcg 5 zdT_dX4_layOut_35 rfl
theorem dX4_layOut_45 : decode cX4_layOut 45 = .ok (.dup2, 1) := zdcg 6 zdT_dX4_layOut_35 rfl
theorem dX4_layOut_46 : decode cX4_layOut 46 = .ok (.iaload, 1) := zdcg 7 zdT_dX4_layOut_35 rfl
theorem dX4_layOut_47 : decode cX4_layOut 47 = .ok (.iconst 1, 1) := zdcg 8 zdT_dX4_layOut_35 rfl
theorem dX4_layOut_48 : decode cX4_layOut 48 = .ok (.iadd, 1) := zdcg 9 zdT_dX4_layOut_35 rfl
theorem dX4_layOut_49 : decode cX4_layOut 49 = .ok (.iastore, 1) := zdcg 10 zdT_dX4_layOut_35 rfl
theorem dX4_layOut_50 : decode cX4_layOut 50 = .ok (.iinc 3 1, 3) := zdcg 11 zdT_dX4_layOut_35 rfl
theorem dX4_layOut_53 : decode cX4_layOut 53 = .ok (.goto (-23), 3) := zdcg 12 zdT_dX4_layOut_35 rfl
theorem dX4_layOut_56 : decode cX4_layOut 56 = .ok (.iinc 2 1, 3) := zdcg 13 zdT_dX4_layOut_35 rfl
theorem dX4_layOut_59 : decode cX4_layOut 59 = .ok (.goto (-55), 3) := zdcg 14 zdT_dX4_layOut_35 rfl
theorem dX4_layOut_62 : decode cX4_layOut 62 = .ok (.return_, 1) := zdcg 15 zdT_dX4_layOut_35 rfl
theorem zdT_dX4_countTableaux_0 : zdch cX4_countTableaux [(0, (.iconst 1, 1)), (1, (.istore_n 1, 1)), (2, (.iconst 0, 1)), (3, (.istore_n 2, 1)), (4, (.iload_n 2, 1)), (5, (.aload_n 0, 1)), (6, (.getfield 13, 3)), (9, (.if_icmp .ge 36, 3)), (12, (.iconst 0, 1)), (13, (.istore_n 3, 1)), (14, (.iload_n 3, 1)), (15, (.aload_n 0, 1)), (16, (.getfield 22, 3)), (19, (.iload_n 2, 1)), (20, (.iaload, 1)), (21, (.if_icmp .ge 18, 3)), (24, (.iload_n 1, 1)), (25, (.aload_n 0, 1)), (26, (.iload_n 2, 1)), (27, (.iload_n 3, 1)), (28, (.invokevirtual 92, 3)), (31, (.imul, 1)), (32, (.istore_n 1, 1)), (33, (.iinc 3 1, 3)), (36, (.goto (-22), 3))] = true := by decide +kernel
theorem dX4_countTableaux_0 : decode cX4_countTableaux 0 = .ok (.iconst 1, 1) := zdcg 0 zdT_dX4_countTableaux_0 rfl
theorem dX4_countTableaux_1 : decode cX4_countTableaux 1 = .ok (.istore_n 1, 1) := zdcg 1 zdT_dX4_countTableaux_0 rfl
theorem dX4_countTableaux_2 : decode cX4_countTableaux 2 = .ok (.iconst 0, 1) := zdcg 2 zdT_dX4_countTableaux_0 rfl
theorem dX4_countTableaux_3 : decode cX4_countTableaux 3 = .ok (.istore_n 2, 1) := zdcg 3 zdT_dX4_countTableaux_0 rfl
theorem dX4_countTableaux_4 : decode cX4_countTableaux 4 = .ok (.iload_n 2, 1) := zdcg 4 zdT_dX4_countTableaux_0 rfl
theorem dX4_countTableaux_5 : decode cX4_countTableaux 5 = .ok (.aload_n 0, 1) := zdcg 5 zdT_dX4_countTableaux_0 rfl
theorem dX4_countTableaux_6 : decode cX4_countTableaux 6 = .ok (.getfield 13, 3) := zdcg 6 zdT_dX4_countTableaux_0 rfl
theorem dX4_countTableaux_9 : decode cX4_countTableaux 9 = .ok (.if_icmp .ge 36, 3) := zdcg 7 zdT_dX4_countTableaux_0 rfl
theorem dX4_countTableaux_12 : decode cX4_countTableaux 12 = .ok (.iconst 0, 1) := zdcg 8 zdT_dX4_countTableaux_0 rfl
theorem dX4_countTableaux_13 : decode cX4_countTableaux 13 = .ok (.istore_n 3, 1) := zdcg 9 zdT_dX4_countTableaux_0 rfl
theorem dX4_countTableaux_14 : decode cX4_countTableaux 14 = .ok (.iload_n 3, 1) := zdcg 10 zdT_dX4_countTableaux_0 rfl
theorem dX4_countTableaux_15 : decode cX4_countTableaux 15 = .ok (.aload_n 0, 1) := zdcg 11 zdT_dX4_countTableaux_0 rfl
theorem dX4_countTableaux_16 : decode cX4_countTableaux 16 = .ok (.getfield 22, 3) := zdcg 12 zdT_dX4_countTableaux_0 rfl
theorem dX4_countTableaux_19 : decode cX4_countTableaux 19 = .ok (.iload_n 2, 1) := zdcg 13 zdT_dX4_countTableaux_0 rfl
theorem dX4_countTableaux_20 : decode cX4_countTableaux 20 = .ok (.iaload, 1) := zdcg 14 zdT_dX4_countTableaux_0 rfl
theorem dX4_countTableaux_21 : decode cX4_countTableaux 21 = .ok (.if_icmp .ge 18, 3) := zdcg 15 zdT_dX4_countTableaux_0 rfl
theorem dX4_countTableaux_24 : decode cX4_countTableaux 24 = .ok (.iload_n 1, 1) := zdcg 16 zdT_dX4_countTableaux_0 rfl
theorem dX4_countTableaux_25 : decode cX4_countTableaux 25 = .ok (.aload_n 0, 1) := zdcg 17 zdT_dX4_countTableaux_0 rfl
theorem dX4_countTableaux_26 : decode cX4_countTableaux 26 = .ok (.iload_n 2, 1) := zdcg 18 zdT_dX4_countTableaux_0 rfl
theorem dX4_countTableaux_27 : decode cX4_countTableaux 27 = .ok (.iload_n 3, 1) := zdcg 19 zdT_dX4_countTableaux_0 rfl
theorem dX4_countTableaux_28 : decode cX4_countTableaux 28 = .ok (.invokevirtual 92, 3) := zdcg 20 zdT_dX4_countTableaux_0 rfl
theorem dX4_countTableaux_31 : decode cX4_countTableaux 31 = .ok (.imul, 1) := zdcg 21 zdT_dX4_countTableaux_0 rfl
theorem dX4_countTableaux_32 : decode cX4_countTableaux 32 = .ok (.istore_n 1, 1) := zdcg 22 zdT_dX4_countTableaux_0 rfl
theorem dX4_countTableaux_33 : decode cX4_countTableaux 33 = .ok (.iinc 3 1, 3) := zdcg 23 zdT_dX4_countTableaux_0 rfl
theorem dX4_countTableaux_36 : decode cX4_countTableaux 36 = .ok (.goto (-22), 3) := zdcg 24 zdT_dX4_countTableaux_0 rfl
theorem zdT_dX4_countTableaux_39 : zdch cX4_countTableaux [(39, (.iinc 2 1, 3)), (42, (.goto (-38), 3)), (45, (.iload_n 1, 1)), (46, (.ifCond .le 15, 3)), (49, (.aload_n 0, 1)), (50, (.getfield 7, 3)), (53, (.invokestatic 96, 3)), (56, (.iload_n 1, 1)), (57, (.idiv, 1)), (58, (.goto 4, 3)), (61, (.iconst 0, 1)), (62, (.ireturn, 1))] = true := by decide +kernel
theorem dX4_countTableaux_39 : decode cX4_countTableaux 39 = .ok (.iinc 2 1, 3) := zdcg 0 zdT_dX4_countTableaux_39 rfl
theorem dX4_countTableaux_42 : decode cX4_countTableaux 42 = .ok (.goto (-38), 3) := zdcg 1 zdT_dX4_countTableaux_39 rfl
theorem dX4_countTableaux_45 : decode cX4_countTableaux 45 = .ok (.iload_n 1, 1) := zdcg 2 zdT_dX4_countTableaux_39 rfl
theorem dX4_countTableaux_46 : decode cX4_countTableaux 46 = .ok (.ifCond .le 15, 3) := zdcg 3 zdT_dX4_countTableaux_39 rfl
theorem dX4_countTableaux_49 : decode cX4_countTableaux 49 = .ok (.aload_n 0, 1) := zdcg 4 zdT_dX4_countTableaux_39 rfl
theorem dX4_countTableaux_50 : decode cX4_countTableaux 50 = .ok (.getfield 7, 3) := zdcg 5 zdT_dX4_countTableaux_39 rfl
theorem dX4_countTableaux_53 : decode cX4_countTableaux 53 = .ok (.invokestatic 96, 3) := zdcg 6 zdT_dX4_countTableaux_39 rfl
theorem dX4_countTableaux_56 : decode cX4_countTableaux 56 = .ok (.iload_n 1, 1) := zdcg 7 zdT_dX4_countTableaux_39 rfl
theorem dX4_countTableaux_57 : decode cX4_countTableaux 57 = .ok (.idiv, 1) := zdcg 8 zdT_dX4_countTableaux_39 rfl
theorem dX4_countTableaux_58 : decode cX4_countTableaux 58 = .ok (.goto 4, 3) := zdcg 9 zdT_dX4_countTableaux_39 rfl
theorem dX4_countTableaux_61 : decode cX4_countTableaux 61 = .ok (.iconst 0, 1) := zdcg 10 zdT_dX4_countTableaux_39 rfl
theorem dX4_countTableaux_62 : decode cX4_countTableaux 62 = .ok (.ireturn, 1) := zdcg 11 zdT_dX4_countTableaux_39 rfl
theorem zdT_dX4_countWays_0 : zdch cX4_countWays [(0, (.iconst 1, 1)), (1, (.istore_n 1, 1)), (2, (.iconst 0, 1)), (3, (.istore_n 2, 1)), (4, (.iload_n 2, 1)), (5, (.aload_n 0, 1)), (6, (.getfield 26, 3)), (9, (.arraylength, 1)), (10, (.if_icmp .ge 21, 3)), (13, (.iload_n 1, 1)), (14, (.aload_n 0, 1)), (15, (.getfield 26, 3)), (18, (.iload_n 2, 1)), (19, (.iaload, 1)), (20, (.invokestatic 96, 3)), (23, (.imul, 1)), (24, (.istore_n 1, 1)), (25, (.iinc 2 1, 3)), (28, (.goto (-24), 3)), (31, (.iload_n 1, 1)), (32, (.ireturn, 1))] = true := by decide +kernel
theorem dX4_countWays_0 : decode cX4_countWays 0 = .ok (.iconst 1, 1) := zdcg 0 zdT_dX4_countWays_0 rfl
theorem dX4_countWays_1 : decode cX4_countWays 1 = .ok (.istore_n 1, 1) := zdcg 1 zdT_dX4_countWays_0 rfl
theorem dX4_countWays_2 : decode cX4_countWays 2 = .ok (.iconst 0, 1) := zdcg 2 zdT_dX4_countWays_0 rfl
theorem dX4_countWays_3 : decode cX4_countWays 3 = .ok (.istore_n 2, 1) := zdcg 3 zdT_dX4_countWays_0 rfl
theorem dX4_countWays_4 : decode cX4_countWays 4 = .ok (.iload_n 2, 1) := zdcg 4 zdT_dX4_countWays_0 rfl
theorem dX4_countWays_5 : decode cX4_countWays 5 = .ok (.aload_n 0, 1) := zdcg 5 zdT_dX4_countWays_0 rfl
theorem dX4_countWays_6 : decode cX4_countWays 6 = .ok (.getfield 26, 3) := zdcg 6 zdT_dX4_countWays_0 rfl
theorem dX4_countWays_9 : decode cX4_countWays 9 = .ok (.arraylength, 1) := zdcg 7 zdT_dX4_countWays_0 rfl
theorem dX4_countWays_10 : decode cX4_countWays 10 = .ok (.if_icmp .ge 21, 3) := zdcg 8 zdT_dX4_countWays_0 rfl
theorem dX4_countWays_13 : decode cX4_countWays 13 = .ok (.iload_n 1, 1) := zdcg 9 zdT_dX4_countWays_0 rfl
theorem dX4_countWays_14 : decode cX4_countWays 14 = .ok (.aload_n 0, 1) := zdcg 10 zdT_dX4_countWays_0 rfl
theorem dX4_countWays_15 : decode cX4_countWays 15 = .ok (.getfield 26, 3) := zdcg 11 zdT_dX4_countWays_0 rfl
theorem dX4_countWays_18 : decode cX4_countWays 18 = .ok (.iload_n 2, 1) := zdcg 12 zdT_dX4_countWays_0 rfl
theorem dX4_countWays_19 : decode cX4_countWays 19 = .ok (.iaload, 1) := zdcg 13 zdT_dX4_countWays_0 rfl
theorem dX4_countWays_20 : decode cX4_countWays 20 = .ok (.invokestatic 96, 3) := zdcg 14 zdT_dX4_countWays_0 rfl
theorem dX4_countWays_23 : decode cX4_countWays 23 = .ok (.imul, 1) := zdcg 15 zdT_dX4_countWays_0 rfl
theorem dX4_countWays_24 : decode cX4_countWays 24 = .ok (.istore_n 1, 1) := zdcg 16 zdT_dX4_countWays_0 rfl
theorem dX4_countWays_25 : decode cX4_countWays 25 = .ok (.iinc 2 1, 3) := zdcg 17 zdT_dX4_countWays_0 rfl
theorem dX4_countWays_28 : decode cX4_countWays 28 = .ok (.goto (-24), 3) := zdcg 18 zdT_dX4_countWays_0 rfl
theorem dX4_countWays_31 : decode cX4_countWays 31 = .ok (.iload_n 1, 1) := zdcg 19 zdT_dX4_countWays_0 rfl
theorem dX4_countWays_32 : decode cX4_countWays 32 = .ok (.ireturn, 1) := zdcg 20 zdT_dX4_countWays_0 rfl
theorem zdT_dX4_fillTableaux_0 : zdch cX4_fillTableaux [(0, (.iload_n 1, 1)), (1, (.aload_n 0, 1)), (2, (.getfield 13, 3)), (5, (.if_icmp .lt 47, 3)), (8, (.aload_n 0, 1)), (9, (.getfield 69, 3)), (12, (.aload_n 0, 1)), (13, (.getfield 39, 3)), (16, (.if_icmp .ge 35, 3)), (19, (.aload_n 0, 1)), (20, (.getfield 42, 3)), (23, (.iconst 0, 1)), (24, (.aload_n 0, 1)), (25, (.getfield 50, 3)), (28, (.aload_n 0, 1)), (29, (.getfield 69, 3)), (32, (.aaload, 1)), (33, (.iconst 0, 1)), (34, (.aload_n 0, 1)), (35, (.getfield 7, 3)), (38, (.invokestatic 102, 3)), (41, (.aload_n 0, 1)), (42, (.dup, 1)), (43, (.getfield 69, 3)), (46, (.iconst 1, 1))] = true := by decide +kernel
theorem dX4_fillTableaux_0 : decode cX4_fillTableaux 0 = .ok (.iload_n 1, 1) := zdcg 0 zdT_dX4_fillTableaux_0 rfl
theorem dX4_fillTableaux_1 : decode cX4_fillTableaux 1 = .ok (.aload_n 0, 1) := zdcg 1 zdT_dX4_fillTableaux_0 rfl
theorem dX4_fillTableaux_2 : decode cX4_fillTableaux 2 = .ok (.getfield 13, 3) := zdcg 2 zdT_dX4_fillTableaux_0 rfl
theorem dX4_fillTableaux_5 : decode cX4_fillTableaux 5 = .ok (.if_icmp .lt 47, 3) := zdcg 3 zdT_dX4_fillTableaux_0 rfl
theorem dX4_fillTableaux_8 : decode cX4_fillTableaux 8 = .ok (.aload_n 0, 1) := zdcg 4 zdT_dX4_fillTableaux_0 rfl
theorem dX4_fillTableaux_9 : decode cX4_fillTableaux 9 = .ok (.getfield 69, 3) := zdcg 5 zdT_dX4_fillTableaux_0 rfl
theorem dX4_fillTableaux_12 : decode cX4_fillTableaux 12 = .ok (.aload_n 0, 1) := zdcg 6 zdT_dX4_fillTableaux_0 rfl
theorem dX4_fillTableaux_13 : decode cX4_fillTableaux 13 = .ok (.getfield 39, 3) := zdcg 7 zdT_dX4_fillTableaux_0 rfl
theorem dX4_fillTableaux_16 : decode cX4_fillTableaux 16 = .ok (.if_icmp .ge 35, 3) := zdcg 8 zdT_dX4_fillTableaux_0 rfl
theorem dX4_fillTableaux_19 : decode cX4_fillTableaux 19 = .ok (.aload_n 0, 1) := zdcg 9 zdT_dX4_fillTableaux_0 rfl
theorem dX4_fillTableaux_20 : decode cX4_fillTableaux 20 = .ok (.getfield 42, 3) := zdcg 10 zdT_dX4_fillTableaux_0 rfl
theorem dX4_fillTableaux_23 : decode cX4_fillTableaux 23 = .ok (.iconst 0, 1) := zdcg 11 zdT_dX4_fillTableaux_0 rfl
theorem dX4_fillTableaux_24 : decode cX4_fillTableaux 24 = .ok (.aload_n 0, 1) := zdcg 12 zdT_dX4_fillTableaux_0 rfl
theorem dX4_fillTableaux_25 : decode cX4_fillTableaux 25 = .ok (.getfield 50, 3) := zdcg 13 zdT_dX4_fillTableaux_0 rfl
theorem dX4_fillTableaux_28 : decode cX4_fillTableaux 28 = .ok (.aload_n 0, 1) := zdcg 14 zdT_dX4_fillTableaux_0 rfl
theorem dX4_fillTableaux_29 : decode cX4_fillTableaux 29 = .ok (.getfield 69, 3) := zdcg 15 zdT_dX4_fillTableaux_0 rfl
theorem dX4_fillTableaux_32 : decode cX4_fillTableaux 32 = .ok (.aaload, 1) := zdcg 16 zdT_dX4_fillTableaux_0 rfl
theorem dX4_fillTableaux_33 : decode cX4_fillTableaux 33 = .ok (.iconst 0, 1) := zdcg 17 zdT_dX4_fillTableaux_0 rfl
theorem dX4_fillTableaux_34 : decode cX4_fillTableaux 34 = .ok (.aload_n 0, 1) := zdcg 18 zdT_dX4_fillTableaux_0 rfl
theorem dX4_fillTableaux_35 : decode cX4_fillTableaux 35 = .ok (.getfield 7, 3) := zdcg 19 zdT_dX4_fillTableaux_0 rfl
theorem dX4_fillTableaux_38 : decode cX4_fillTableaux 38 = .ok (.invokestatic 102, 3) := zdcg 20 zdT_dX4_fillTableaux_0 rfl
theorem dX4_fillTableaux_41 : decode cX4_fillTableaux 41 = .ok (.aload_n 0, 1) := zdcg 21 zdT_dX4_fillTableaux_0 rfl
theorem dX4_fillTableaux_42 : decode cX4_fillTableaux 42 = .ok (.dup, 1) := zdcg 22 zdT_dX4_fillTableaux_0 rfl
theorem dX4_fillTableaux_43 : decode cX4_fillTableaux 43 = .ok (.getfield 69, 3) := zdcg 23 zdT_dX4_fillTableaux_0 rfl
theorem dX4_fillTableaux_46 : decode cX4_fillTableaux 46 = .ok (.iconst 1, 1) := zdcg 24 zdT_dX4_fillTableaux_0 rfl
theorem zdT_dX4_fillTableaux_47 : zdch cX4_fillTableaux [(47, (.iadd, 1)), (48, (.putfield 69, 3)), (51, (.return_, 1)), (52, (.aload_n 0, 1)), (53, (.getfield 29, 3)), (56, (.iload_n 1, 1)), (57, (.iaload, 1)), (58, (.iload_n 2, 1)), (59, (.iadd, 1)), (60, (.istore_n 3, 1)), (61, (.iload_n 2, 1)), (62, (.ifCond .le 14, 3)), (65, (.aload_n 0, 1)), (66, (.getfield 42, 3)), (69, (.iload_n 3, 1)), (70, (.iconst 1, 1)), (71, (.isub, 1)), (72, (.iaload, 1)), (73, (.goto 4, 3)), (76, (.iconst 0, 1)), (77, (.istore 4, 2)), (79, (.iload_n 1, 1)), (80, (.ifCond .le 25, 3)), (83, (.iload 4, 2)), (85, (.aload_n 0, 1))] = true := by decide +kernel
theorem dX4_fillTableaux_47 : decode cX4_fillTableaux 47 = .ok (.iadd, 1) := zdcg 0 zdT_dX4_fillTableaux_47 rfl
theorem dX4_fillTableaux_48 : decode cX4_fillTableaux 48 = .ok (.putfield 69, 3) := zdcg 1 zdT_dX4_fillTableaux_47 rfl
theorem dX4_fillTableaux_51 : decode cX4_fillTableaux 51 = .ok (.return_, 1) := zdcg 2 zdT_dX4_fillTableaux_47 rfl
theorem dX4_fillTableaux_52 : decode cX4_fillTableaux 52 = .ok (.aload_n 0, 1) := zdcg 3 zdT_dX4_fillTableaux_47 rfl
theorem dX4_fillTableaux_53 : decode cX4_fillTableaux 53 = .ok (.getfield 29, 3) := zdcg 4 zdT_dX4_fillTableaux_47 rfl
theorem dX4_fillTableaux_56 : decode cX4_fillTableaux 56 = .ok (.iload_n 1, 1) := zdcg 5 zdT_dX4_fillTableaux_47 rfl
theorem dX4_fillTableaux_57 : decode cX4_fillTableaux 57 = .ok (.iaload, 1) := zdcg 6 zdT_dX4_fillTableaux_47 rfl
theorem dX4_fillTableaux_58 : decode cX4_fillTableaux 58 = .ok (.iload_n 2, 1) := zdcg 7 zdT_dX4_fillTableaux_47 rfl
theorem dX4_fillTableaux_59 : decode cX4_fillTableaux 59 = .ok (.iadd, 1) := zdcg 8 zdT_dX4_fillTableaux_47 rfl
theorem dX4_fillTableaux_60 : decode cX4_fillTableaux 60 = .ok (.istore_n 3, 1) := zdcg 9 zdT_dX4_fillTableaux_47 rfl
theorem dX4_fillTableaux_61 : decode cX4_fillTableaux 61 = .ok (.iload_n 2, 1) := zdcg 10 zdT_dX4_fillTableaux_47 rfl
theorem dX4_fillTableaux_62 : decode cX4_fillTableaux 62 = .ok (.ifCond .le 14, 3) := zdcg 11 zdT_dX4_fillTableaux_47 rfl
theorem dX4_fillTableaux_65 : decode cX4_fillTableaux 65 = .ok (.aload_n 0, 1) := zdcg 12 zdT_dX4_fillTableaux_47 rfl
theorem dX4_fillTableaux_66 : decode cX4_fillTableaux 66 = .ok (.getfield 42, 3) := zdcg 13 zdT_dX4_fillTableaux_47 rfl
theorem dX4_fillTableaux_69 : decode cX4_fillTableaux 69 = .ok (.iload_n 3, 1) := zdcg 14 zdT_dX4_fillTableaux_47 rfl
theorem dX4_fillTableaux_70 : decode cX4_fillTableaux 70 = .ok (.iconst 1, 1) := zdcg 15 zdT_dX4_fillTableaux_47 rfl
theorem dX4_fillTableaux_71 : decode cX4_fillTableaux 71 = .ok (.isub, 1) := zdcg 16 zdT_dX4_fillTableaux_47 rfl
theorem dX4_fillTableaux_72 : decode cX4_fillTableaux 72 = .ok (.iaload, 1) := zdcg 17 zdT_dX4_fillTableaux_47 rfl
theorem dX4_fillTableaux_73 : decode cX4_fillTableaux 73 = .ok (.goto 4, 3) := zdcg 18 zdT_dX4_fillTableaux_47 rfl
theorem dX4_fillTableaux_76 : decode cX4_fillTableaux 76 = .ok (.iconst 0, 1) := zdcg 19 zdT_dX4_fillTableaux_47 rfl
theorem dX4_fillTableaux_77 : decode cX4_fillTableaux 77 = .ok (.istore 4, 2) := zdcg 20 zdT_dX4_fillTableaux_47 rfl
theorem dX4_fillTableaux_79 : decode cX4_fillTableaux 79 = .ok (.iload_n 1, 1) := zdcg 21 zdT_dX4_fillTableaux_47 rfl
theorem dX4_fillTableaux_80 : decode cX4_fillTableaux 80 = .ok (.ifCond .le 25, 3) := zdcg 22 zdT_dX4_fillTableaux_47 rfl
theorem dX4_fillTableaux_83 : decode cX4_fillTableaux 83 = .ok (.iload 4, 2) := zdcg 23 zdT_dX4_fillTableaux_47 rfl
theorem dX4_fillTableaux_85 : decode cX4_fillTableaux 85 = .ok (.aload_n 0, 1) := zdcg 24 zdT_dX4_fillTableaux_47 rfl
theorem zdT_dX4_fillTableaux_86 : zdch cX4_fillTableaux [(86, (.getfield 42, 3)), (89, (.aload_n 0, 1)), (90, (.getfield 29, 3)), (93, (.iload_n 1, 1)), (94, (.iconst 1, 1)), (95, (.isub, 1)), (96, (.iaload, 1)), (97, (.iload_n 2, 1)), (98, (.iadd, 1)), (99, (.iaload, 1)), (100, (.invokestatic 108, 3)), (103, (.istore 4, 2)), (105, (.iload_n 2, 1)), (106, (.iconst 1, 1)), (107, (.iadd, 1)), (108, (.aload_n 0, 1)), (109, (.getfield 22, 3)), (112, (.iload_n 1, 1)), (113, (.iaload, 1)), (114, (.if_icmp .ne 7, 3)), (117, (.iconst 1, 1)), (118, (.goto 4, 3)), (121, (.iconst 0, 1)), (122, (.istore 5, 2)), (124, (.iload 4, 2))] = true := by decide +kernel
theorem dX4_fillTableaux_86 : decode cX4_fillTableaux 86 = .ok (.getfield 42, 3) := zdcg 0 zdT_dX4_fillTableaux_86 rfl
theorem dX4_fillTableaux_89 : decode cX4_fillTableaux 89 = .ok (.aload_n 0, 1) := zdcg 1 zdT_dX4_fillTableaux_86 rfl
theorem dX4_fillTableaux_90 : decode cX4_fillTableaux 90 = .ok (.getfield 29, 3) := zdcg 2 zdT_dX4_fillTableaux_86 rfl
theorem dX4_fillTableaux_93 : decode cX4_fillTableaux 93 = .ok (.iload_n 1, 1) := zdcg 3 zdT_dX4_fillTableaux_86 rfl
theorem dX4_fillTableaux_94 : decode cX4_fillTableaux 94 = .ok (.iconst 1, 1) := zdcg 4 zdT_dX4_fillTableaux_86 rfl
theorem dX4_fillTableaux_95 : decode cX4_fillTableaux 95 = .ok (.isub, 1) := zdcg 5 zdT_dX4_fillTableaux_86 rfl
theorem dX4_fillTableaux_96 : decode cX4_fillTableaux 96 = .ok (.iaload, 1) := zdcg 6 zdT_dX4_fillTableaux_86 rfl
theorem dX4_fillTableaux_97 : decode cX4_fillTableaux 97 = .ok (.iload_n 2, 1) := zdcg 7 zdT_dX4_fillTableaux_86 rfl
theorem dX4_fillTableaux_98 : decode cX4_fillTableaux 98 = .ok (.iadd, 1) := zdcg 8 zdT_dX4_fillTableaux_86 rfl
theorem dX4_fillTableaux_99 : decode cX4_fillTableaux 99 = .ok (.iaload, 1) := zdcg 9 zdT_dX4_fillTableaux_86 rfl
theorem dX4_fillTableaux_100 : decode cX4_fillTableaux 100 = .ok (.invokestatic 108, 3) := zdcg 10 zdT_dX4_fillTableaux_86 rfl
theorem dX4_fillTableaux_103 : decode cX4_fillTableaux 103 = .ok (.istore 4, 2) := zdcg 11 zdT_dX4_fillTableaux_86 rfl
theorem dX4_fillTableaux_105 : decode cX4_fillTableaux 105 = .ok (.iload_n 2, 1) := zdcg 12 zdT_dX4_fillTableaux_86 rfl
theorem dX4_fillTableaux_106 : decode cX4_fillTableaux 106 = .ok (.iconst 1, 1) := zdcg 13 zdT_dX4_fillTableaux_86 rfl
theorem dX4_fillTableaux_107 : decode cX4_fillTableaux 107 = .ok (.iadd, 1) := zdcg 14 zdT_dX4_fillTableaux_86 rfl
theorem dX4_fillTableaux_108 : decode cX4_fillTableaux 108 = .ok (.aload_n 0, 1) := zdcg 15 zdT_dX4_fillTableaux_86 rfl
theorem dX4_fillTableaux_109 : decode cX4_fillTableaux 109 = .ok (.getfield 22, 3) := zdcg 16 zdT_dX4_fillTableaux_86 rfl
theorem dX4_fillTableaux_112 : decode cX4_fillTableaux 112 = .ok (.iload_n 1, 1) := zdcg 17 zdT_dX4_fillTableaux_86 rfl
theorem dX4_fillTableaux_113 : decode cX4_fillTableaux 113 = .ok (.iaload, 1) := zdcg 18 zdT_dX4_fillTableaux_86 rfl
theorem dX4_fillTableaux_114 : decode cX4_fillTableaux 114 = .ok (.if_icmp .ne 7, 3) := zdcg 19 zdT_dX4_fillTableaux_86 rfl
theorem dX4_fillTableaux_117 : decode cX4_fillTableaux 117 = .ok (.iconst 1, 1) := zdcg 20 zdT_dX4_fillTableaux_86 rfl
theorem dX4_fillTableaux_118 : decode cX4_fillTableaux 118 = .ok (.goto 4, 3) := zdcg 21 zdT_dX4_fillTableaux_86 rfl
theorem dX4_fillTableaux_121 : decode cX4_fillTableaux 121 = .ok (.iconst 0, 1) := zdcg 22 zdT_dX4_fillTableaux_86 rfl
theorem dX4_fillTableaux_122 : decode cX4_fillTableaux 122 = .ok (.istore 5, 2) := zdcg 23 zdT_dX4_fillTableaux_86 rfl
theorem dX4_fillTableaux_124 : decode cX4_fillTableaux 124 = .ok (.iload 4, 2) := zdcg 24 zdT_dX4_fillTableaux_86 rfl
theorem zdT_dX4_fillTableaux_126 : zdch cX4_fillTableaux [(126, (.iconst 1, 1)), (127, (.iadd, 1)), (128, (.istore 6, 2)), (130, (.iload 6, 2)), (132, (.aload_n 0, 1)), (133, (.getfield 7, 3)), (136, (.if_icmp .gt 71, 3)), (139, (.aload_n 0, 1)), (140, (.getfield 45, 3)), (143, (.iload 6, 2)), (145, (.iaload, 1)), (146, (.ifCond .ne 55, 3)), (149, (.aload_n 0, 1)), (150, (.getfield 45, 3)), (153, (.iload 6, 2)), (155, (.iconst 1, 1)), (156, (.iastore, 1)), (157, (.aload_n 0, 1)), (158, (.getfield 42, 3)), (161, (.iload_n 3, 1)), (162, (.iload 6, 2)), (164, (.iastore, 1)), (165, (.aload_n 0, 1)), (166, (.iload 5, 2)), (168, (.ifCond .eq 9, 3))] = true := by decide +kernel
theorem dX4_fillTableaux_126 : decode cX4_fillTableaux 126 = .ok (.iconst 1, 1) := zdcg 0 zdT_dX4_fillTableaux_126 rfl
theorem dX4_fillTableaux_127 : decode cX4_fillTableaux 127 = .ok (.iadd, 1) := zdcg 1 zdT_dX4_fillTableaux_126 rfl
theorem dX4_fillTableaux_128 : decode cX4_fillTableaux 128 = .ok (.istore 6, 2) := zdcg 2 zdT_dX4_fillTableaux_126 rfl
theorem dX4_fillTableaux_130 : decode cX4_fillTableaux 130 = .ok (.iload 6, 2) := zdcg 3 zdT_dX4_fillTableaux_126 rfl
theorem dX4_fillTableaux_132 : decode cX4_fillTableaux 132 = .ok (.aload_n 0, 1) := zdcg 4 zdT_dX4_fillTableaux_126 rfl
theorem dX4_fillTableaux_133 : decode cX4_fillTableaux 133 = .ok (.getfield 7, 3) := zdcg 5 zdT_dX4_fillTableaux_126 rfl
theorem dX4_fillTableaux_136 : decode cX4_fillTableaux 136 = .ok (.if_icmp .gt 71, 3) := zdcg 6 zdT_dX4_fillTableaux_126 rfl
theorem dX4_fillTableaux_139 : decode cX4_fillTableaux 139 = .ok (.aload_n 0, 1) := zdcg 7 zdT_dX4_fillTableaux_126 rfl
theorem dX4_fillTableaux_140 : decode cX4_fillTableaux 140 = .ok (.getfield 45, 3) := zdcg 8 zdT_dX4_fillTableaux_126 rfl
theorem dX4_fillTableaux_143 : decode cX4_fillTableaux 143 = .ok (.iload 6, 2) := zdcg 9 zdT_dX4_fillTableaux_126 rfl
theorem dX4_fillTableaux_145 : decode cX4_fillTableaux 145 = .ok (.iaload, 1) := zdcg 10 zdT_dX4_fillTableaux_126 rfl
theorem dX4_fillTableaux_146 : decode cX4_fillTableaux 146 = .ok (.ifCond .ne 55, 3) := zdcg 11 zdT_dX4_fillTableaux_126 rfl
theorem dX4_fillTableaux_149 : decode cX4_fillTableaux 149 = .ok (.aload_n 0, 1) := zdcg 12 zdT_dX4_fillTableaux_126 rfl
theorem dX4_fillTableaux_150 : decode cX4_fillTableaux 150 = .ok (.getfield 45, 3) := zdcg 13 zdT_dX4_fillTableaux_126 rfl
theorem dX4_fillTableaux_153 : decode cX4_fillTableaux 153 = .ok (.iload 6, 2) := zdcg 14 zdT_dX4_fillTableaux_126 rfl
theorem dX4_fillTableaux_155 : decode cX4_fillTableaux 155 = .ok (.iconst 1, 1) := zdcg 15 zdT_dX4_fillTableaux_126 rfl
theorem dX4_fillTableaux_156 : decode cX4_fillTableaux 156 = .ok (.iastore, 1) := zdcg 16 zdT_dX4_fillTableaux_126 rfl
theorem dX4_fillTableaux_157 : decode cX4_fillTableaux 157 = .ok (.aload_n 0, 1) := zdcg 17 zdT_dX4_fillTableaux_126 rfl
theorem dX4_fillTableaux_158 : decode cX4_fillTableaux 158 = .ok (.getfield 42, 3) := zdcg 18 zdT_dX4_fillTableaux_126 rfl
theorem dX4_fillTableaux_161 : decode cX4_fillTableaux 161 = .ok (.iload_n 3, 1) := zdcg 19 zdT_dX4_fillTableaux_126 rfl
theorem dX4_fillTableaux_162 : decode cX4_fillTableaux 162 = .ok (.iload 6, 2) := zdcg 20 zdT_dX4_fillTableaux_126 rfl
theorem dX4_fillTableaux_164 : decode cX4_fillTableaux 164 = .ok (.iastore, 1) := zdcg 21 zdT_dX4_fillTableaux_126 rfl
theorem dX4_fillTableaux_165 : decode cX4_fillTableaux 165 = .ok (.aload_n 0, 1) := zdcg 22 zdT_dX4_fillTableaux_126 rfl
theorem dX4_fillTableaux_166 : decode cX4_fillTableaux 166 = .ok (.iload 5, 2) := zdcg 23 zdT_dX4_fillTableaux_126 rfl
theorem dX4_fillTableaux_168 : decode cX4_fillTableaux 168 = .ok (.ifCond .eq 9, 3) := zdcg 24 zdT_dX4_fillTableaux_126 rfl
theorem zdT_dX4_fillTableaux_171 : zdch cX4_fillTableaux [(171, (.iload_n 1, 1)), (172, (.iconst 1, 1)), (173, (.iadd, 1)), (174, (.goto 4, 3)), (177, (.iload_n 1, 1)), (178, (.iload 5, 2)), (180, (.ifCond .eq 7, 3)), (183, (.iconst 0, 1)), (184, (.goto 6, 3)), (187, (.iload_n 2, 1)), (188, (.iconst 1, 1)), (189, (.iadd, 1)), (190, (.invokevirtual 53, 3)), (193, (.aload_n 0, 1)), (194, (.getfield 45, 3)), (197, (.iload 6, 2)), (199, (.iconst 0, 1)), (200, (.iastore, 1)), (201, (.iinc 6 1, 3)), (204, (.goto (-74), 3)), (207, (.return_, 1))] = true := by decide +kernel
theorem dX4_fillTableaux_171 : decode cX4_fillTableaux 171 = .ok (.iload_n 1, 1) := zdcg 0 zdT_dX4_fillTableaux_171 rfl
theorem dX4_fillTableaux_172 : decode cX4_fillTableaux 172 = .ok (.iconst 1, 1) := zdcg 1 zdT_dX4_fillTableaux_171 rfl
theorem dX4_fillTableaux_173 : decode cX4_fillTableaux 173 = .ok (.iadd, 1) := zdcg 2 zdT_dX4_fillTableaux_171 rfl
theorem dX4_fillTableaux_174 : decode cX4_fillTableaux 174 = .ok (.goto 4, 3) := zdcg 3 zdT_dX4_fillTableaux_171 rfl
theorem dX4_fillTableaux_177 : decode cX4_fillTableaux 177 = .ok (.iload_n 1, 1) := zdcg 4 zdT_dX4_fillTableaux_171 rfl
theorem dX4_fillTableaux_178 : decode cX4_fillTableaux 178 = .ok (.iload 5, 2) := zdcg 5 zdT_dX4_fillTableaux_171 rfl
theorem dX4_fillTableaux_180 : decode cX4_fillTableaux 180 = .ok (.ifCond .eq 7, 3) := zdcg 6 zdT_dX4_fillTableaux_171 rfl
theorem dX4_fillTableaux_183 : decode cX4_fillTableaux 183 = .ok (.iconst 0, 1) := zdcg 7 zdT_dX4_fillTableaux_171 rfl
theorem dX4_fillTableaux_184 : decode cX4_fillTableaux 184 = .ok (.goto 6, 3) := zdcg 8 zdT_dX4_fillTableaux_171 rfl
theorem dX4_fillTableaux_187 : decode cX4_fillTableaux 187 = .ok (.iload_n 2, 1) := zdcg 9 zdT_dX4_fillTableaux_171 rfl
theorem dX4_fillTableaux_188 : decode cX4_fillTableaux 188 = .ok (.iconst 1, 1) := zdcg 10 zdT_dX4_fillTableaux_171 rfl
theorem dX4_fillTableaux_189 : decode cX4_fillTableaux 189 = .ok (.iadd, 1) := zdcg 11 zdT_dX4_fillTableaux_171 rfl
theorem dX4_fillTableaux_190 : decode cX4_fillTableaux 190 = .ok (.invokevirtual 53, 3) := zdcg 12 zdT_dX4_fillTableaux_171 rfl
theorem dX4_fillTableaux_193 : decode cX4_fillTableaux 193 = .ok (.aload_n 0, 1) := zdcg 13 zdT_dX4_fillTableaux_171 rfl
theorem dX4_fillTableaux_194 : decode cX4_fillTableaux 194 = .ok (.getfield 45, 3) := zdcg 14 zdT_dX4_fillTableaux_171 rfl
theorem dX4_fillTableaux_197 : decode cX4_fillTableaux 197 = .ok (.iload 6, 2) := zdcg 15 zdT_dX4_fillTableaux_171 rfl
theorem dX4_fillTableaux_199 : decode cX4_fillTableaux 199 = .ok (.iconst 0, 1) := zdcg 16 zdT_dX4_fillTableaux_171 rfl
theorem dX4_fillTableaux_200 : decode cX4_fillTableaux 200 = .ok (.iastore, 1) := zdcg 17 zdT_dX4_fillTableaux_171 rfl
theorem dX4_fillTableaux_201 : decode cX4_fillTableaux 201 = .ok (.iinc 6 1, 3) := zdcg 18 zdT_dX4_fillTableaux_171 rfl
theorem dX4_fillTableaux_204 : decode cX4_fillTableaux 204 = .ok (.goto (-74), 3) := zdcg 19 zdT_dX4_fillTableaux_171 rfl
theorem dX4_fillTableaux_207 : decode cX4_fillTableaux 207 = .ok (.return_, 1) := zdcg 20 zdT_dX4_fillTableaux_171 rfl
theorem zdT_dX4_fillWays_0 : zdch cX4_fillWays [(0, (.iload_n 1, 1)), (1, (.aload_n 0, 1)), (2, (.getfield 13, 3)), (5, (.if_icmp .lt 60, 3)), (8, (.aload_n 0, 1)), (9, (.getfield 69, 3)), (12, (.aload_n 0, 1)), (13, (.getfield 60, 3)), (16, (.if_icmp .ge 48, 3)), (19, (.aload_n 0, 1)), (20, (.getfield 42, 3)), (23, (.iconst 0, 1)), (24, (.aload_n 0, 1)), (25, (.getfield 63, 3)), (28, (.aload_n 0, 1)), (29, (.getfield 69, 3)), (32, (.aload_n 0, 1)), (33, (.getfield 7, 3)), (36, (.imul, 1)), (37, (.aload_n 0, 1)), (38, (.getfield 7, 3)), (41, (.invokestatic 102, 3)), (44, (.aload_n 0, 1)), (45, (.getfield 66, 3)), (48, (.aload_n 0, 1))] = true := by decide +kernel
theorem dX4_fillWays_0 : decode cX4_fillWays 0 = .ok (.iload_n 1, 1) := zdcg 0 zdT_dX4_fillWays_0 rfl
theorem dX4_fillWays_1 : decode cX4_fillWays 1 = .ok (.aload_n 0, 1) := zdcg 1 zdT_dX4_fillWays_0 rfl
theorem dX4_fillWays_2 : decode cX4_fillWays 2 = .ok (.getfield 13, 3) := zdcg 2 zdT_dX4_fillWays_0 rfl
theorem dX4_fillWays_5 : decode cX4_fillWays 5 = .ok (.if_icmp .lt 60, 3) := zdcg 3 zdT_dX4_fillWays_0 rfl
theorem dX4_fillWays_8 : decode cX4_fillWays 8 = .ok (.aload_n 0, 1) := zdcg 4 zdT_dX4_fillWays_0 rfl
theorem dX4_fillWays_9 : decode cX4_fillWays 9 = .ok (.getfield 69, 3) := zdcg 5 zdT_dX4_fillWays_0 rfl
theorem dX4_fillWays_12 : decode cX4_fillWays 12 = .ok (.aload_n 0, 1) := zdcg 6 zdT_dX4_fillWays_0 rfl
theorem dX4_fillWays_13 : decode cX4_fillWays 13 = .ok (.getfield 60, 3) := zdcg 7 zdT_dX4_fillWays_0 rfl
theorem dX4_fillWays_16 : decode cX4_fillWays 16 = .ok (.if_icmp .ge 48, 3) := zdcg 8 zdT_dX4_fillWays_0 rfl
theorem dX4_fillWays_19 : decode cX4_fillWays 19 = .ok (.aload_n 0, 1) := zdcg 9 zdT_dX4_fillWays_0 rfl
theorem dX4_fillWays_20 : decode cX4_fillWays 20 = .ok (.getfield 42, 3) := zdcg 10 zdT_dX4_fillWays_0 rfl
theorem dX4_fillWays_23 : decode cX4_fillWays 23 = .ok (.iconst 0, 1) := zdcg 11 zdT_dX4_fillWays_0 rfl
theorem dX4_fillWays_24 : decode cX4_fillWays 24 = .ok (.aload_n 0, 1) := zdcg 12 zdT_dX4_fillWays_0 rfl
theorem dX4_fillWays_25 : decode cX4_fillWays 25 = .ok (.getfield 63, 3) := zdcg 13 zdT_dX4_fillWays_0 rfl
theorem dX4_fillWays_28 : decode cX4_fillWays 28 = .ok (.aload_n 0, 1) := zdcg 14 zdT_dX4_fillWays_0 rfl
theorem dX4_fillWays_29 : decode cX4_fillWays 29 = .ok (.getfield 69, 3) := zdcg 15 zdT_dX4_fillWays_0 rfl
theorem dX4_fillWays_32 : decode cX4_fillWays 32 = .ok (.aload_n 0, 1) := zdcg 16 zdT_dX4_fillWays_0 rfl
theorem dX4_fillWays_33 : decode cX4_fillWays 33 = .ok (.getfield 7, 3) := zdcg 17 zdT_dX4_fillWays_0 rfl
theorem dX4_fillWays_36 : decode cX4_fillWays 36 = .ok (.imul, 1) := zdcg 18 zdT_dX4_fillWays_0 rfl
theorem dX4_fillWays_37 : decode cX4_fillWays 37 = .ok (.aload_n 0, 1) := zdcg 19 zdT_dX4_fillWays_0 rfl
theorem dX4_fillWays_38 : decode cX4_fillWays 38 = .ok (.getfield 7, 3) := zdcg 20 zdT_dX4_fillWays_0 rfl
theorem dX4_fillWays_41 : decode cX4_fillWays 41 = .ok (.invokestatic 102, 3) := zdcg 21 zdT_dX4_fillWays_0 rfl
theorem dX4_fillWays_44 : decode cX4_fillWays 44 = .ok (.aload_n 0, 1) := zdcg 22 zdT_dX4_fillWays_0 rfl
theorem dX4_fillWays_45 : decode cX4_fillWays 45 = .ok (.getfield 66, 3) := zdcg 23 zdT_dX4_fillWays_0 rfl
theorem dX4_fillWays_48 : decode cX4_fillWays 48 = .ok (.aload_n 0, 1) := zdcg 24 zdT_dX4_fillWays_0 rfl
theorem zdT_dX4_fillWays_49 : zdch cX4_fillWays [(49, (.getfield 69, 3)), (52, (.iload_n 3, 1)), (53, (.iastore, 1)), (54, (.aload_n 0, 1)), (55, (.dup, 1)), (56, (.getfield 69, 3)), (59, (.iconst 1, 1)), (60, (.iadd, 1)), (61, (.putfield 69, 3)), (64, (.return_, 1)), (65, (.iload_n 2, 1)), (66, (.iconst 1, 1)), (67, (.iadd, 1)), (68, (.aload_n 0, 1)), (69, (.getfield 22, 3)), (72, (.iload_n 1, 1)), (73, (.iaload, 1)), (74, (.if_icmp .ne 7, 3)), (77, (.iconst 1, 1)), (78, (.goto 4, 3)), (81, (.iconst 0, 1)), (82, (.istore 4, 2)), (84, (.iconst 0, 1)), (85, (.istore 5, 2)), (87, (.iload 5, 2))] = true := by decide +kernel
theorem dX4_fillWays_49 : decode cX4_fillWays 49 = .ok (.getfield 69, 3) := zdcg 0 zdT_dX4_fillWays_49 rfl
theorem dX4_fillWays_52 : decode cX4_fillWays 52 = .ok (.iload_n 3, 1) := zdcg 1 zdT_dX4_fillWays_49 rfl
theorem dX4_fillWays_53 : decode cX4_fillWays 53 = .ok (.iastore, 1) := zdcg 2 zdT_dX4_fillWays_49 rfl
theorem dX4_fillWays_54 : decode cX4_fillWays 54 = .ok (.aload_n 0, 1) := zdcg 3 zdT_dX4_fillWays_49 rfl
theorem dX4_fillWays_55 : decode cX4_fillWays 55 = .ok (.dup, 1) := zdcg 4 zdT_dX4_fillWays_49 rfl
theorem dX4_fillWays_56 : decode cX4_fillWays 56 = .ok (.getfield 69, 3) := zdcg 5 zdT_dX4_fillWays_49 rfl
theorem dX4_fillWays_59 : decode cX4_fillWays 59 = .ok (.iconst 1, 1) := zdcg 6 zdT_dX4_fillWays_49 rfl
theorem dX4_fillWays_60 : decode cX4_fillWays 60 = .ok (.iadd, 1) := zdcg 7 zdT_dX4_fillWays_49 rfl
theorem dX4_fillWays_61 : decode cX4_fillWays 61 = .ok (.putfield 69, 3) := zdcg 8 zdT_dX4_fillWays_49 rfl
theorem dX4_fillWays_64 : decode cX4_fillWays 64 = .ok (.return_, 1) := zdcg 9 zdT_dX4_fillWays_49 rfl
theorem dX4_fillWays_65 : decode cX4_fillWays 65 = .ok (.iload_n 2, 1) := zdcg 10 zdT_dX4_fillWays_49 rfl
theorem dX4_fillWays_66 : decode cX4_fillWays 66 = .ok (.iconst 1, 1) := zdcg 11 zdT_dX4_fillWays_49 rfl
theorem dX4_fillWays_67 : decode cX4_fillWays 67 = .ok (.iadd, 1) := zdcg 12 zdT_dX4_fillWays_49 rfl
theorem dX4_fillWays_68 : decode cX4_fillWays 68 = .ok (.aload_n 0, 1) := zdcg 13 zdT_dX4_fillWays_49 rfl
theorem dX4_fillWays_69 : decode cX4_fillWays 69 = .ok (.getfield 22, 3) := zdcg 14 zdT_dX4_fillWays_49 rfl
theorem dX4_fillWays_72 : decode cX4_fillWays 72 = .ok (.iload_n 1, 1) := zdcg 15 zdT_dX4_fillWays_49 rfl
theorem dX4_fillWays_73 : decode cX4_fillWays 73 = .ok (.iaload, 1) := zdcg 16 zdT_dX4_fillWays_49 rfl
theorem dX4_fillWays_74 : decode cX4_fillWays 74 = .ok (.if_icmp .ne 7, 3) := zdcg 17 zdT_dX4_fillWays_49 rfl
theorem dX4_fillWays_77 : decode cX4_fillWays 77 = .ok (.iconst 1, 1) := zdcg 18 zdT_dX4_fillWays_49 rfl
theorem dX4_fillWays_78 : decode cX4_fillWays 78 = .ok (.goto 4, 3) := zdcg 19 zdT_dX4_fillWays_49 rfl
theorem dX4_fillWays_81 : decode cX4_fillWays 81 = .ok (.iconst 0, 1) := zdcg 20 zdT_dX4_fillWays_49 rfl
theorem dX4_fillWays_82 : decode cX4_fillWays 82 = .ok (.istore 4, 2) := zdcg 21 zdT_dX4_fillWays_49 rfl
theorem dX4_fillWays_84 : decode cX4_fillWays 84 = .ok (.iconst 0, 1) := zdcg 22 zdT_dX4_fillWays_49 rfl
theorem dX4_fillWays_85 : decode cX4_fillWays 85 = .ok (.istore 5, 2) := zdcg 23 zdT_dX4_fillWays_49 rfl
theorem dX4_fillWays_87 : decode cX4_fillWays 87 = .ok (.iload 5, 2) := zdcg 24 zdT_dX4_fillWays_49 rfl
theorem zdT_dX4_fillWays_89 : zdch cX4_fillWays [(89, (.aload_n 0, 1)), (90, (.getfield 26, 3)), (93, (.iload_n 2, 1)), (94, (.iaload, 1)), (95, (.if_icmp .ge 121, 3)), (98, (.aload_n 0, 1)), (99, (.getfield 45, 3)), (102, (.iload_n 2, 1)), (103, (.iaload, 1)), (104, (.iload 5, 2)), (106, (.ishr, 1)), (107, (.iconst 1, 1)), (108, (.iand, 1)), (109, (.ifCond .ne 101, 3)), (112, (.aload_n 0, 1)), (113, (.getfield 45, 3)), (116, (.iload_n 2, 1)), (117, (.iaload, 1)), (118, (.iload 5, 2)), (120, (.ishr, 1)), (121, (.invokestatic 113, 3)), (124, (.istore 6, 2)), (126, (.aload_n 0, 1)), (127, (.getfield 45, 3)), (130, (.iload_n 2, 1))] = true := by decide +kernel
theorem dX4_fillWays_89 : decode cX4_fillWays 89 = .ok (.aload_n 0, 1) := zdcg 0 zdT_dX4_fillWays_89 rfl
theorem dX4_fillWays_90 : decode cX4_fillWays 90 = .ok (.getfield 26, 3) := zdcg 1 zdT_dX4_fillWays_89 rfl
theorem dX4_fillWays_93 : decode cX4_fillWays 93 = .ok (.iload_n 2, 1) := zdcg 2 zdT_dX4_fillWays_89 rfl
theorem dX4_fillWays_94 : decode cX4_fillWays 94 = .ok (.iaload, 1) := zdcg 3 zdT_dX4_fillWays_89 rfl
theorem dX4_fillWays_95 : decode cX4_fillWays 95 = .ok (.if_icmp .ge 121, 3) := zdcg 4 zdT_dX4_fillWays_89 rfl
theorem dX4_fillWays_98 : decode cX4_fillWays 98 = .ok (.aload_n 0, 1) := zdcg 5 zdT_dX4_fillWays_89 rfl
theorem dX4_fillWays_99 : decode cX4_fillWays 99 = .ok (.getfield 45, 3) := zdcg 6 zdT_dX4_fillWays_89 rfl
theorem dX4_fillWays_102 : decode cX4_fillWays 102 = .ok (.iload_n 2, 1) := zdcg 7 zdT_dX4_fillWays_89 rfl
theorem dX4_fillWays_103 : decode cX4_fillWays 103 = .ok (.iaload, 1) := zdcg 8 zdT_dX4_fillWays_89 rfl
theorem dX4_fillWays_104 : decode cX4_fillWays 104 = .ok (.iload 5, 2) := zdcg 9 zdT_dX4_fillWays_89 rfl
theorem dX4_fillWays_106 : decode cX4_fillWays 106 = .ok (.ishr, 1) := zdcg 10 zdT_dX4_fillWays_89 rfl
theorem dX4_fillWays_107 : decode cX4_fillWays 107 = .ok (.iconst 1, 1) := zdcg 11 zdT_dX4_fillWays_89 rfl
theorem dX4_fillWays_108 : decode cX4_fillWays 108 = .ok (.iand, 1) := zdcg 12 zdT_dX4_fillWays_89 rfl
theorem dX4_fillWays_109 : decode cX4_fillWays 109 = .ok (.ifCond .ne 101, 3) := zdcg 13 zdT_dX4_fillWays_89 rfl
theorem dX4_fillWays_112 : decode cX4_fillWays 112 = .ok (.aload_n 0, 1) := zdcg 14 zdT_dX4_fillWays_89 rfl
theorem dX4_fillWays_113 : decode cX4_fillWays 113 = .ok (.getfield 45, 3) := zdcg 15 zdT_dX4_fillWays_89 rfl
theorem dX4_fillWays_116 : decode cX4_fillWays 116 = .ok (.iload_n 2, 1) := zdcg 16 zdT_dX4_fillWays_89 rfl
theorem dX4_fillWays_117 : decode cX4_fillWays 117 = .ok (.iaload, 1) := zdcg 17 zdT_dX4_fillWays_89 rfl
theorem dX4_fillWays_118 : decode cX4_fillWays 118 = .ok (.iload 5, 2) := zdcg 18 zdT_dX4_fillWays_89 rfl
theorem dX4_fillWays_120 : decode cX4_fillWays 120 = .ok (.ishr, 1) := zdcg 19 zdT_dX4_fillWays_89 rfl
theorem dX4_fillWays_121 : decode cX4_fillWays 121 = .ok (.invokestatic 113, 3) := zdcg 20 zdT_dX4_fillWays_89 rfl
theorem dX4_fillWays_124 : decode cX4_fillWays 124 = .ok (.istore 6, 2) := zdcg 21 zdT_dX4_fillWays_89 rfl
theorem dX4_fillWays_126 : decode cX4_fillWays 126 = .ok (.aload_n 0, 1) := zdcg 22 zdT_dX4_fillWays_89 rfl
theorem dX4_fillWays_127 : decode cX4_fillWays 127 = .ok (.getfield 45, 3) := zdcg 23 zdT_dX4_fillWays_89 rfl
theorem dX4_fillWays_130 : decode cX4_fillWays 130 = .ok (.iload_n 2, 1) := zdcg 24 zdT_dX4_fillWays_89 rfl
theorem zdT_dX4_fillWays_131 : zdch cX4_fillWays [(131, (.dup2, 1)), (132, (.iaload, 1)), (133, (.iconst 1, 1)), (134, (.iload 5, 2)), (136, (.ishl, 1)), (137, (.ior, 1)), (138, (.iastore, 1)), (139, (.aload_n 0, 1)), (140, (.getfield 42, 3)), (143, (.aload_n 0, 1)), (144, (.getfield 29, 3)), (147, (.iload_n 1, 1)), (148, (.iaload, 1)), (149, (.iload_n 2, 1)), (150, (.iadd, 1)), (151, (.iload 5, 2)), (153, (.iastore, 1)), (154, (.aload_n 0, 1)), (155, (.iload 4, 2)), (157, (.ifCond .eq 9, 3)), (160, (.iload_n 1, 1)), (161, (.iconst 1, 1)), (162, (.iadd, 1)), (163, (.goto 4, 3)), (166, (.iload_n 1, 1))] = true := by decide +kernel
theorem dX4_fillWays_131 : decode cX4_fillWays 131 = .ok (.dup2, 1) := zdcg 0 zdT_dX4_fillWays_131 rfl
theorem dX4_fillWays_132 : decode cX4_fillWays 132 = .ok (.iaload, 1) := zdcg 1 zdT_dX4_fillWays_131 rfl
theorem dX4_fillWays_133 : decode cX4_fillWays 133 = .ok (.iconst 1, 1) := zdcg 2 zdT_dX4_fillWays_131 rfl
theorem dX4_fillWays_134 : decode cX4_fillWays 134 = .ok (.iload 5, 2) := zdcg 3 zdT_dX4_fillWays_131 rfl
theorem dX4_fillWays_136 : decode cX4_fillWays 136 = .ok (.ishl, 1) := zdcg 4 zdT_dX4_fillWays_131 rfl
theorem dX4_fillWays_137 : decode cX4_fillWays 137 = .ok (.ior, 1) := zdcg 5 zdT_dX4_fillWays_131 rfl
theorem dX4_fillWays_138 : decode cX4_fillWays 138 = .ok (.iastore, 1) := zdcg 6 zdT_dX4_fillWays_131 rfl
theorem dX4_fillWays_139 : decode cX4_fillWays 139 = .ok (.aload_n 0, 1) := zdcg 7 zdT_dX4_fillWays_131 rfl
theorem dX4_fillWays_140 : decode cX4_fillWays 140 = .ok (.getfield 42, 3) := zdcg 8 zdT_dX4_fillWays_131 rfl
theorem dX4_fillWays_143 : decode cX4_fillWays 143 = .ok (.aload_n 0, 1) := zdcg 9 zdT_dX4_fillWays_131 rfl
theorem dX4_fillWays_144 : decode cX4_fillWays 144 = .ok (.getfield 29, 3) := zdcg 10 zdT_dX4_fillWays_131 rfl
theorem dX4_fillWays_147 : decode cX4_fillWays 147 = .ok (.iload_n 1, 1) := zdcg 11 zdT_dX4_fillWays_131 rfl
theorem dX4_fillWays_148 : decode cX4_fillWays 148 = .ok (.iaload, 1) := zdcg 12 zdT_dX4_fillWays_131 rfl
theorem dX4_fillWays_149 : decode cX4_fillWays 149 = .ok (.iload_n 2, 1) := zdcg 13 zdT_dX4_fillWays_131 rfl
theorem dX4_fillWays_150 : decode cX4_fillWays 150 = .ok (.iadd, 1) := zdcg 14 zdT_dX4_fillWays_131 rfl
theorem dX4_fillWays_151 : decode cX4_fillWays 151 = .ok (.iload 5, 2) := zdcg 15 zdT_dX4_fillWays_131 rfl
theorem dX4_fillWays_153 : decode cX4_fillWays 153 = .ok (.iastore, 1) := zdcg 16 zdT_dX4_fillWays_131 rfl
theorem dX4_fillWays_154 : decode cX4_fillWays 154 = .ok (.aload_n 0, 1) := zdcg 17 zdT_dX4_fillWays_131 rfl
theorem dX4_fillWays_155 : decode cX4_fillWays 155 = .ok (.iload 4, 2) := zdcg 18 zdT_dX4_fillWays_131 rfl
theorem dX4_fillWays_157 : decode cX4_fillWays 157 = .ok (.ifCond .eq 9, 3) := zdcg 19 zdT_dX4_fillWays_131 rfl
theorem dX4_fillWays_160 : decode cX4_fillWays 160 = .ok (.iload_n 1, 1) := zdcg 20 zdT_dX4_fillWays_131 rfl
theorem dX4_fillWays_161 : decode cX4_fillWays 161 = .ok (.iconst 1, 1) := zdcg 21 zdT_dX4_fillWays_131 rfl
theorem dX4_fillWays_162 : decode cX4_fillWays 162 = .ok (.iadd, 1) := zdcg 22 zdT_dX4_fillWays_131 rfl
theorem dX4_fillWays_163 : decode cX4_fillWays 163 = .ok (.goto 4, 3) := zdcg 23 zdT_dX4_fillWays_131 rfl
theorem dX4_fillWays_166 : decode cX4_fillWays 166 = .ok (.iload_n 1, 1) := zdcg 24 zdT_dX4_fillWays_131 rfl
theorem zdT_dX4_fillWays_167 : zdch cX4_fillWays [(167, (.iload 4, 2)), (169, (.ifCond .eq 7, 3)), (172, (.iconst 0, 1)), (173, (.goto 6, 3)), (176, (.iload_n 2, 1)), (177, (.iconst 1, 1)), (178, (.iadd, 1)), (179, (.iload 6, 2)), (181, (.iconst 2, 1)), (182, (.irem, 1)), (183, (.ifCond .ne 7, 3)), (186, (.iload_n 3, 1)), (187, (.goto 5, 3)), (190, (.iload_n 3, 1)), (191, (.ineg, 1)), (192, (.invokevirtual 76, 3)), (195, (.aload_n 0, 1)), (196, (.getfield 45, 3)), (199, (.iload_n 2, 1)), (200, (.dup2, 1)), (201, (.iaload, 1)), (202, (.iconst 1, 1)), (203, (.iload 5, 2)), (205, (.ishl, 1)), (206, (.iconst (-1), 1))] = true := by decide +kernel
theorem dX4_fillWays_167 : decode cX4_fillWays 167 = .ok (.iload 4, 2) := zdcg 0 zdT_dX4_fillWays_167 rfl
theorem dX4_fillWays_169 : decode cX4_fillWays 169 = .ok (.ifCond .eq 7, 3) := zdcg 1 zdT_dX4_fillWays_167 rfl
theorem dX4_fillWays_172 : decode cX4_fillWays 172 = .ok (.iconst 0, 1) := zdcg 2 zdT_dX4_fillWays_167 rfl
theorem dX4_fillWays_173 : decode cX4_fillWays 173 = .ok (.goto 6, 3) := zdcg 3 zdT_dX4_fillWays_167 rfl
theorem dX4_fillWays_176 : decode cX4_fillWays 176 = .ok (.iload_n 2, 1) := zdcg 4 zdT_dX4_fillWays_167 rfl
theorem dX4_fillWays_177 : decode cX4_fillWays 177 = .ok (.iconst 1, 1) := zdcg 5 zdT_dX4_fillWays_167 rfl
theorem dX4_fillWays_178 : decode cX4_fillWays 178 = .ok (.iadd, 1) := zdcg 6 zdT_dX4_fillWays_167 rfl
theorem dX4_fillWays_179 : decode cX4_fillWays 179 = .ok (.iload 6, 2) := zdcg 7 zdT_dX4_fillWays_167 rfl
theorem dX4_fillWays_181 : decode cX4_fillWays 181 = .ok (.iconst 2, 1) := zdcg 8 zdT_dX4_fillWays_167 rfl
theorem dX4_fillWays_182 : decode cX4_fillWays 182 = .ok (.irem, 1) := zdcg 9 zdT_dX4_fillWays_167 rfl
theorem dX4_fillWays_183 : decode cX4_fillWays 183 = .ok (.ifCond .ne 7, 3) := zdcg 10 zdT_dX4_fillWays_167 rfl
theorem dX4_fillWays_186 : decode cX4_fillWays 186 = .ok (.iload_n 3, 1) := zdcg 11 zdT_dX4_fillWays_167 rfl
theorem dX4_fillWays_187 : decode cX4_fillWays 187 = .ok (.goto 5, 3) := zdcg 12 zdT_dX4_fillWays_167 rfl
theorem dX4_fillWays_190 : decode cX4_fillWays 190 = .ok (.iload_n 3, 1) := zdcg 13 zdT_dX4_fillWays_167 rfl
theorem dX4_fillWays_191 : decode cX4_fillWays 191 = .ok (.ineg, 1) := zdcg 14 zdT_dX4_fillWays_167 rfl
theorem dX4_fillWays_192 : decode cX4_fillWays 192 = .ok (.invokevirtual 76, 3) := zdcg 15 zdT_dX4_fillWays_167 rfl
theorem dX4_fillWays_195 : decode cX4_fillWays 195 = .ok (.aload_n 0, 1) := zdcg 16 zdT_dX4_fillWays_167 rfl
theorem dX4_fillWays_196 : decode cX4_fillWays 196 = .ok (.getfield 45, 3) := zdcg 17 zdT_dX4_fillWays_167 rfl
theorem dX4_fillWays_199 : decode cX4_fillWays 199 = .ok (.iload_n 2, 1) := zdcg 18 zdT_dX4_fillWays_167 rfl
theorem dX4_fillWays_200 : decode cX4_fillWays 200 = .ok (.dup2, 1) := zdcg 19 zdT_dX4_fillWays_167 rfl
theorem dX4_fillWays_201 : decode cX4_fillWays 201 = .ok (.iaload, 1) := zdcg 20 zdT_dX4_fillWays_167 rfl
theorem dX4_fillWays_202 : decode cX4_fillWays 202 = .ok (.iconst 1, 1) := zdcg 21 zdT_dX4_fillWays_167 rfl
theorem dX4_fillWays_203 : decode cX4_fillWays 203 = .ok (.iload 5, 2) := zdcg 22 zdT_dX4_fillWays_167 rfl
theorem dX4_fillWays_205 : decode cX4_fillWays 205 = .ok (.ishl, 1) := zdcg 23 zdT_dX4_fillWays_167 rfl
theorem dX4_fillWays_206 : decode cX4_fillWays 206 = .ok (.iconst (-1), 1) := zdcg 24 zdT_dX4_fillWays_167 rfl
theorem zdT_dX4_fillWays_207 : zdch cX4_fillWays [(207, (.ixor, 1)), (208, (.iand, 1)), (209, (.iastore, 1)), (210, (.iinc 5 1, 3)), (213, (.goto (-126), 3)), (216, (.return_, 1))] = true := by decide +kernel
theorem dX4_fillWays_207 : decode cX4_fillWays 207 = .ok (.ixor, 1) := zdcg 0 zdT_dX4_fillWays_207 rfl
theorem dX4_fillWays_208 : decode cX4_fillWays 208 = .ok (.iand, 1) := zdcg 1 zdT_dX4_fillWays_207 rfl
theorem dX4_fillWays_209 : decode cX4_fillWays 209 = .ok (.iastore, 1) := zdcg 2 zdT_dX4_fillWays_207 rfl
theorem dX4_fillWays_210 : decode cX4_fillWays 210 = .ok (.iinc 5 1, 3) := zdcg 3 zdT_dX4_fillWays_207 rfl
theorem dX4_fillWays_213 : decode cX4_fillWays 213 = .ok (.goto (-126), 3) := zdcg 4 zdT_dX4_fillWays_207 rfl
theorem dX4_fillWays_216 : decode cX4_fillWays 216 = .ok (.return_, 1) := zdcg 5 zdT_dX4_fillWays_207 rfl
theorem zdT_dX4_weighNumbers_0 : zdch cX4_weighNumbers [(0, (.iconst 1, 1)), (1, (.istore_n 1, 1)), (2, (.iconst 1, 1)), (3, (.istore_n 2, 1)), (4, (.iload_n 2, 1)), (5, (.aload_n 0, 1)), (6, (.getfield 7, 3)), (9, (.if_icmp .ge 23, 3)), (12, (.aload_n 0, 1)), (13, (.getfield 80, 3)), (16, (.iload_n 2, 1)), (17, (.iload_n 1, 1)), (18, (.iastore, 1)), (19, (.iload_n 1, 1)), (20, (.aload_n 0, 1)), (21, (.getfield 13, 3)), (24, (.imul, 1)), (25, (.istore_n 1, 1)), (26, (.iinc 2 1, 3)), (29, (.goto (-25), 3)), (32, (.return_, 1))] = true := by decide +kernel
theorem dX4_weighNumbers_0 : decode cX4_weighNumbers 0 = .ok (.iconst 1, 1) := zdcg 0 zdT_dX4_weighNumbers_0 rfl
theorem dX4_weighNumbers_1 : decode cX4_weighNumbers 1 = .ok (.istore_n 1, 1) := zdcg 1 zdT_dX4_weighNumbers_0 rfl
theorem dX4_weighNumbers_2 : decode cX4_weighNumbers 2 = .ok (.iconst 1, 1) := zdcg 2 zdT_dX4_weighNumbers_0 rfl
theorem dX4_weighNumbers_3 : decode cX4_weighNumbers 3 = .ok (.istore_n 2, 1) := zdcg 3 zdT_dX4_weighNumbers_0 rfl
theorem dX4_weighNumbers_4 : decode cX4_weighNumbers 4 = .ok (.iload_n 2, 1) := zdcg 4 zdT_dX4_weighNumbers_0 rfl
theorem dX4_weighNumbers_5 : decode cX4_weighNumbers 5 = .ok (.aload_n 0, 1) := zdcg 5 zdT_dX4_weighNumbers_0 rfl
theorem dX4_weighNumbers_6 : decode cX4_weighNumbers 6 = .ok (.getfield 7, 3) := zdcg 6 zdT_dX4_weighNumbers_0 rfl
theorem dX4_weighNumbers_9 : decode cX4_weighNumbers 9 = .ok (.if_icmp .ge 23, 3) := zdcg 7 zdT_dX4_weighNumbers_0 rfl
theorem dX4_weighNumbers_12 : decode cX4_weighNumbers 12 = .ok (.aload_n 0, 1) := zdcg 8 zdT_dX4_weighNumbers_0 rfl
theorem dX4_weighNumbers_13 : decode cX4_weighNumbers 13 = .ok (.getfield 80, 3) := zdcg 9 zdT_dX4_weighNumbers_0 rfl
theorem dX4_weighNumbers_16 : decode cX4_weighNumbers 16 = .ok (.iload_n 2, 1) := zdcg 10 zdT_dX4_weighNumbers_0 rfl
theorem dX4_weighNumbers_17 : decode cX4_weighNumbers 17 = .ok (.iload_n 1, 1) := zdcg 11 zdT_dX4_weighNumbers_0 rfl
theorem dX4_weighNumbers_18 : decode cX4_weighNumbers 18 = .ok (.iastore, 1) := zdcg 12 zdT_dX4_weighNumbers_0 rfl
theorem dX4_weighNumbers_19 : decode cX4_weighNumbers 19 = .ok (.iload_n 1, 1) := zdcg 13 zdT_dX4_weighNumbers_0 rfl
theorem dX4_weighNumbers_20 : decode cX4_weighNumbers 20 = .ok (.aload_n 0, 1) := zdcg 14 zdT_dX4_weighNumbers_0 rfl
theorem dX4_weighNumbers_21 : decode cX4_weighNumbers 21 = .ok (.getfield 13, 3) := zdcg 15 zdT_dX4_weighNumbers_0 rfl
theorem dX4_weighNumbers_24 : decode cX4_weighNumbers 24 = .ok (.imul, 1) := zdcg 16 zdT_dX4_weighNumbers_0 rfl
theorem dX4_weighNumbers_25 : decode cX4_weighNumbers 25 = .ok (.istore_n 1, 1) := zdcg 17 zdT_dX4_weighNumbers_0 rfl
theorem dX4_weighNumbers_26 : decode cX4_weighNumbers 26 = .ok (.iinc 2 1, 3) := zdcg 18 zdT_dX4_weighNumbers_0 rfl
theorem dX4_weighNumbers_29 : decode cX4_weighNumbers 29 = .ok (.goto (-25), 3) := zdcg 19 zdT_dX4_weighNumbers_0 rfl
theorem dX4_weighNumbers_32 : decode cX4_weighNumbers 32 = .ok (.return_, 1) := zdcg 20 zdT_dX4_weighNumbers_0 rfl
theorem zdT_dX4_codeCount_0 : zdch cX4_codeCount [(0, (.iconst 1, 1)), (1, (.istore_n 1, 1)), (2, (.iconst 1, 1)), (3, (.istore_n 2, 1)), (4, (.iload_n 2, 1)), (5, (.aload_n 0, 1)), (6, (.getfield 7, 3)), (9, (.if_icmp .ge 16, 3)), (12, (.iload_n 1, 1)), (13, (.aload_n 0, 1)), (14, (.getfield 13, 3)), (17, (.imul, 1)), (18, (.istore_n 1, 1)), (19, (.iinc 2 1, 3)), (22, (.goto (-18), 3)), (25, (.iload_n 1, 1)), (26, (.ireturn, 1))] = true := by decide +kernel
theorem dX4_codeCount_0 : decode cX4_codeCount 0 = .ok (.iconst 1, 1) := zdcg 0 zdT_dX4_codeCount_0 rfl
theorem dX4_codeCount_1 : decode cX4_codeCount 1 = .ok (.istore_n 1, 1) := zdcg 1 zdT_dX4_codeCount_0 rfl
theorem dX4_codeCount_2 : decode cX4_codeCount 2 = .ok (.iconst 1, 1) := zdcg 2 zdT_dX4_codeCount_0 rfl
theorem dX4_codeCount_3 : decode cX4_codeCount 3 = .ok (.istore_n 2, 1) := zdcg 3 zdT_dX4_codeCount_0 rfl
theorem dX4_codeCount_4 : decode cX4_codeCount 4 = .ok (.iload_n 2, 1) := zdcg 4 zdT_dX4_codeCount_0 rfl
theorem dX4_codeCount_5 : decode cX4_codeCount 5 = .ok (.aload_n 0, 1) := zdcg 5 zdT_dX4_codeCount_0 rfl
theorem dX4_codeCount_6 : decode cX4_codeCount 6 = .ok (.getfield 7, 3) := zdcg 6 zdT_dX4_codeCount_0 rfl
theorem dX4_codeCount_9 : decode cX4_codeCount 9 = .ok (.if_icmp .ge 16, 3) := zdcg 7 zdT_dX4_codeCount_0 rfl
theorem dX4_codeCount_12 : decode cX4_codeCount 12 = .ok (.iload_n 1, 1) := zdcg 8 zdT_dX4_codeCount_0 rfl
theorem dX4_codeCount_13 : decode cX4_codeCount 13 = .ok (.aload_n 0, 1) := zdcg 9 zdT_dX4_codeCount_0 rfl
theorem dX4_codeCount_14 : decode cX4_codeCount 14 = .ok (.getfield 13, 3) := zdcg 10 zdT_dX4_codeCount_0 rfl
theorem dX4_codeCount_17 : decode cX4_codeCount 17 = .ok (.imul, 1) := zdcg 11 zdT_dX4_codeCount_0 rfl
theorem dX4_codeCount_18 : decode cX4_codeCount 18 = .ok (.istore_n 1, 1) := zdcg 12 zdT_dX4_codeCount_0 rfl
theorem dX4_codeCount_19 : decode cX4_codeCount 19 = .ok (.iinc 2 1, 3) := zdcg 13 zdT_dX4_codeCount_0 rfl
theorem dX4_codeCount_22 : decode cX4_codeCount 22 = .ok (.goto (-18), 3) := zdcg 14 zdT_dX4_codeCount_0 rfl
theorem dX4_codeCount_25 : decode cX4_codeCount 25 = .ok (.iload_n 1, 1) := zdcg 15 zdT_dX4_codeCount_0 rfl
theorem dX4_codeCount_26 : decode cX4_codeCount 26 = .ok (.ireturn, 1) := zdcg 16 zdT_dX4_codeCount_0 rfl
theorem zdT_dX4_codeOf_0 : zdch cX4_codeOf [(0, (.iconst 0, 1)), (1, (.istore 4, 2)), (3, (.iconst 0, 1)), (4, (.istore 5, 2)), (6, (.iload 5, 2)), (8, (.aload_n 0, 1)), (9, (.getfield 7, 3)), (12, (.if_icmp .ge 40, 3)), (15, (.iload 4, 2)), (17, (.aload_n 0, 1)), (18, (.getfield 63, 3)), (21, (.iload_n 2, 1)), (22, (.aload_n 0, 1)), (23, (.getfield 7, 3)), (26, (.imul, 1)), (27, (.iload 5, 2)), (29, (.iadd, 1)), (30, (.iaload, 1)), (31, (.aload_n 0, 1)), (32, (.getfield 80, 3)), (35, (.aload_n 3, 1)), (36, (.aload_n 1, 1)), (37, (.iload 5, 2)), (39, (.iaload, 1)), (40, (.iaload, 1))] = true := by decide +kernel
theorem dX4_codeOf_0 : decode cX4_codeOf 0 = .ok (.iconst 0, 1) := zdcg 0 zdT_dX4_codeOf_0 rfl
theorem dX4_codeOf_1 : decode cX4_codeOf 1 = .ok (.istore 4, 2) := zdcg 1 zdT_dX4_codeOf_0 rfl
theorem dX4_codeOf_3 : decode cX4_codeOf 3 = .ok (.iconst 0, 1) := zdcg 2 zdT_dX4_codeOf_0 rfl
theorem dX4_codeOf_4 : decode cX4_codeOf 4 = .ok (.istore 5, 2) := zdcg 3 zdT_dX4_codeOf_0 rfl
theorem dX4_codeOf_6 : decode cX4_codeOf 6 = .ok (.iload 5, 2) := zdcg 4 zdT_dX4_codeOf_0 rfl
theorem dX4_codeOf_8 : decode cX4_codeOf 8 = .ok (.aload_n 0, 1) := zdcg 5 zdT_dX4_codeOf_0 rfl
theorem dX4_codeOf_9 : decode cX4_codeOf 9 = .ok (.getfield 7, 3) := zdcg 6 zdT_dX4_codeOf_0 rfl
theorem dX4_codeOf_12 : decode cX4_codeOf 12 = .ok (.if_icmp .ge 40, 3) := zdcg 7 zdT_dX4_codeOf_0 rfl
theorem dX4_codeOf_15 : decode cX4_codeOf 15 = .ok (.iload 4, 2) := zdcg 8 zdT_dX4_codeOf_0 rfl
theorem dX4_codeOf_17 : decode cX4_codeOf 17 = .ok (.aload_n 0, 1) := zdcg 9 zdT_dX4_codeOf_0 rfl
theorem dX4_codeOf_18 : decode cX4_codeOf 18 = .ok (.getfield 63, 3) := zdcg 10 zdT_dX4_codeOf_0 rfl
theorem dX4_codeOf_21 : decode cX4_codeOf 21 = .ok (.iload_n 2, 1) := zdcg 11 zdT_dX4_codeOf_0 rfl
theorem dX4_codeOf_22 : decode cX4_codeOf 22 = .ok (.aload_n 0, 1) := zdcg 12 zdT_dX4_codeOf_0 rfl
theorem dX4_codeOf_23 : decode cX4_codeOf 23 = .ok (.getfield 7, 3) := zdcg 13 zdT_dX4_codeOf_0 rfl
theorem dX4_codeOf_26 : decode cX4_codeOf 26 = .ok (.imul, 1) := zdcg 14 zdT_dX4_codeOf_0 rfl
theorem dX4_codeOf_27 : decode cX4_codeOf 27 = .ok (.iload 5, 2) := zdcg 15 zdT_dX4_codeOf_0 rfl
theorem dX4_codeOf_29 : decode cX4_codeOf 29 = .ok (.iadd, 1) := zdcg 16 zdT_dX4_codeOf_0 rfl
theorem dX4_codeOf_30 : decode cX4_codeOf 30 = .ok (.iaload, 1) := zdcg 17 zdT_dX4_codeOf_0 rfl
theorem dX4_codeOf_31 : decode cX4_codeOf 31 = .ok (.aload_n 0, 1) := zdcg 18 zdT_dX4_codeOf_0 rfl
theorem dX4_codeOf_32 : decode cX4_codeOf 32 = .ok (.getfield 80, 3) := zdcg 19 zdT_dX4_codeOf_0 rfl
theorem dX4_codeOf_35 : decode cX4_codeOf 35 = .ok (.aload_n 3, 1) := zdcg 20 zdT_dX4_codeOf_0 rfl
theorem dX4_codeOf_36 : decode cX4_codeOf 36 = .ok (.aload_n 1, 1) := zdcg 21 zdT_dX4_codeOf_0 rfl
theorem dX4_codeOf_37 : decode cX4_codeOf 37 = .ok (.iload 5, 2) := zdcg 22 zdT_dX4_codeOf_0 rfl
theorem dX4_codeOf_39 : decode cX4_codeOf 39 = .ok (.iaload, 1) := zdcg 23 zdT_dX4_codeOf_0 rfl
theorem dX4_codeOf_40 : decode cX4_codeOf 40 = .ok (.iaload, 1) := zdcg 24 zdT_dX4_codeOf_0 rfl
theorem zdT_dX4_codeOf_41 : zdch cX4_codeOf [(41, (.iaload, 1)), (42, (.imul, 1)), (43, (.iadd, 1)), (44, (.istore 4, 2)), (46, (.iinc 5 1, 3)), (49, (.goto (-43), 3)), (52, (.iload 4, 2)), (54, (.ireturn, 1))] = true := by decide +kernel
theorem dX4_codeOf_41 : decode cX4_codeOf 41 = .ok (.iaload, 1) := zdcg 0 zdT_dX4_codeOf_41 rfl
theorem dX4_codeOf_42 : decode cX4_codeOf 42 = .ok (.imul, 1) := zdcg 1 zdT_dX4_codeOf_41 rfl
theorem dX4_codeOf_43 : decode cX4_codeOf 43 = .ok (.iadd, 1) := zdcg 2 zdT_dX4_codeOf_41 rfl
theorem dX4_codeOf_44 : decode cX4_codeOf 44 = .ok (.istore 4, 2) := zdcg 3 zdT_dX4_codeOf_41 rfl
theorem dX4_codeOf_46 : decode cX4_codeOf 46 = .ok (.iinc 5 1, 3) := zdcg 4 zdT_dX4_codeOf_41 rfl
theorem dX4_codeOf_49 : decode cX4_codeOf 49 = .ok (.goto (-43), 3) := zdcg 5 zdT_dX4_codeOf_41 rfl
theorem dX4_codeOf_52 : decode cX4_codeOf 52 = .ok (.iload 4, 2) := zdcg 6 zdT_dX4_codeOf_41 rfl
theorem dX4_codeOf_54 : decode cX4_codeOf 54 = .ok (.ireturn, 1) := zdcg 7 zdT_dX4_codeOf_41 rfl
theorem zdT_dX4_makeForms_0 : zdch cX4_makeForms [(0, (.iconst 0, 1)), (1, (.istore_n 3, 1)), (2, (.iload_n 3, 1)), (3, (.aload_n 0, 1)), (4, (.getfield 39, 3)), (7, (.if_icmp .ge 49, 3)), (10, (.iconst 0, 1)), (11, (.istore 4, 2)), (13, (.iload 4, 2)), (15, (.aload_n 0, 1)), (16, (.getfield 60, 3)), (19, (.if_icmp .ge 31, 3)), (22, (.aload_n 0, 1)), (23, (.getfield 86, 3)), (26, (.iload_n 3, 1)), (27, (.aaload, 1)), (28, (.iload 4, 2)), (30, (.aload_n 0, 1)), (31, (.aload_n 0, 1)), (32, (.getfield 50, 3)), (35, (.iload_n 3, 1)), (36, (.aaload, 1)), (37, (.iload 4, 2)), (39, (.aload_n 1, 1)), (40, (.invokevirtual 118, 3))] = true := by decide +kernel
theorem dX4_makeForms_0 : decode cX4_makeForms 0 = .ok (.iconst 0, 1) := zdcg 0 zdT_dX4_makeForms_0 rfl
theorem dX4_makeForms_1 : decode cX4_makeForms 1 = .ok (.istore_n 3, 1) := zdcg 1 zdT_dX4_makeForms_0 rfl
theorem dX4_makeForms_2 : decode cX4_makeForms 2 = .ok (.iload_n 3, 1) := zdcg 2 zdT_dX4_makeForms_0 rfl
theorem dX4_makeForms_3 : decode cX4_makeForms 3 = .ok (.aload_n 0, 1) := zdcg 3 zdT_dX4_makeForms_0 rfl
theorem dX4_makeForms_4 : decode cX4_makeForms 4 = .ok (.getfield 39, 3) := zdcg 4 zdT_dX4_makeForms_0 rfl
theorem dX4_makeForms_7 : decode cX4_makeForms 7 = .ok (.if_icmp .ge 49, 3) := zdcg 5 zdT_dX4_makeForms_0 rfl
theorem dX4_makeForms_10 : decode cX4_makeForms 10 = .ok (.iconst 0, 1) := zdcg 6 zdT_dX4_makeForms_0 rfl
theorem dX4_makeForms_11 : decode cX4_makeForms 11 = .ok (.istore 4, 2) := zdcg 7 zdT_dX4_makeForms_0 rfl
theorem dX4_makeForms_13 : decode cX4_makeForms 13 = .ok (.iload 4, 2) := zdcg 8 zdT_dX4_makeForms_0 rfl
theorem dX4_makeForms_15 : decode cX4_makeForms 15 = .ok (.aload_n 0, 1) := zdcg 9 zdT_dX4_makeForms_0 rfl
theorem dX4_makeForms_16 : decode cX4_makeForms 16 = .ok (.getfield 60, 3) := zdcg 10 zdT_dX4_makeForms_0 rfl
theorem dX4_makeForms_19 : decode cX4_makeForms 19 = .ok (.if_icmp .ge 31, 3) := zdcg 11 zdT_dX4_makeForms_0 rfl
theorem dX4_makeForms_22 : decode cX4_makeForms 22 = .ok (.aload_n 0, 1) := zdcg 12 zdT_dX4_makeForms_0 rfl
theorem dX4_makeForms_23 : decode cX4_makeForms 23 = .ok (.getfield 86, 3) := zdcg 13 zdT_dX4_makeForms_0 rfl
theorem dX4_makeForms_26 : decode cX4_makeForms 26 = .ok (.iload_n 3, 1) := zdcg 14 zdT_dX4_makeForms_0 rfl
theorem dX4_makeForms_27 : decode cX4_makeForms 27 = .ok (.aaload, 1) := zdcg 15 zdT_dX4_makeForms_0 rfl
theorem dX4_makeForms_28 : decode cX4_makeForms 28 = .ok (.iload 4, 2) := zdcg 16 zdT_dX4_makeForms_0 rfl
theorem dX4_makeForms_30 : decode cX4_makeForms 30 = .ok (.aload_n 0, 1) := zdcg 17 zdT_dX4_makeForms_0 rfl
theorem dX4_makeForms_31 : decode cX4_makeForms 31 = .ok (.aload_n 0, 1) := zdcg 18 zdT_dX4_makeForms_0 rfl
theorem dX4_makeForms_32 : decode cX4_makeForms 32 = .ok (.getfield 50, 3) := zdcg 19 zdT_dX4_makeForms_0 rfl
theorem dX4_makeForms_35 : decode cX4_makeForms 35 = .ok (.iload_n 3, 1) := zdcg 20 zdT_dX4_makeForms_0 rfl
theorem dX4_makeForms_36 : decode cX4_makeForms 36 = .ok (.aaload, 1) := zdcg 21 zdT_dX4_makeForms_0 rfl
theorem dX4_makeForms_37 : decode cX4_makeForms 37 = .ok (.iload 4, 2) := zdcg 22 zdT_dX4_makeForms_0 rfl
theorem dX4_makeForms_39 : decode cX4_makeForms 39 = .ok (.aload_n 1, 1) := zdcg 23 zdT_dX4_makeForms_0 rfl
theorem dX4_makeForms_40 : decode cX4_makeForms 40 = .ok (.invokevirtual 118, 3) := zdcg 24 zdT_dX4_makeForms_0 rfl
theorem zdT_dX4_makeForms_43 : zdch cX4_makeForms [(43, (.iastore, 1)), (44, (.iinc 4 1, 3)), (47, (.goto (-34), 3)), (50, (.iinc 3 1, 3)), (53, (.goto (-51), 3)), (56, (.aload_n 0, 1)), (57, (.aload_n 1, 1)), (58, (.aload_n 2, 1)), (59, (.aload_n 0, 1)), (60, (.getfield 89, 3)), (63, (.invokevirtual 122, 3)), (66, (.return_, 1))] = true := by decide +kernel
theorem dX4_makeForms_43 : decode cX4_makeForms 43 = .ok (.iastore, 1) := zdcg 0 zdT_dX4_makeForms_43 rfl
theorem dX4_makeForms_44 : decode cX4_makeForms 44 = .ok (.iinc 4 1, 3) := zdcg 1 zdT_dX4_makeForms_43 rfl
theorem dX4_makeForms_47 : decode cX4_makeForms 47 = .ok (.goto (-34), 3) := zdcg 2 zdT_dX4_makeForms_43 rfl
theorem dX4_makeForms_50 : decode cX4_makeForms 50 = .ok (.iinc 3 1, 3) := zdcg 3 zdT_dX4_makeForms_43 rfl
theorem dX4_makeForms_53 : decode cX4_makeForms 53 = .ok (.goto (-51), 3) := zdcg 4 zdT_dX4_makeForms_43 rfl
theorem dX4_makeForms_56 : decode cX4_makeForms 56 = .ok (.aload_n 0, 1) := zdcg 5 zdT_dX4_makeForms_43 rfl
theorem dX4_makeForms_57 : decode cX4_makeForms 57 = .ok (.aload_n 1, 1) := zdcg 6 zdT_dX4_makeForms_43 rfl
theorem dX4_makeForms_58 : decode cX4_makeForms 58 = .ok (.aload_n 2, 1) := zdcg 7 zdT_dX4_makeForms_43 rfl
theorem dX4_makeForms_59 : decode cX4_makeForms 59 = .ok (.aload_n 0, 1) := zdcg 8 zdT_dX4_makeForms_43 rfl
theorem dX4_makeForms_60 : decode cX4_makeForms 60 = .ok (.getfield 89, 3) := zdcg 9 zdT_dX4_makeForms_43 rfl
theorem dX4_makeForms_63 : decode cX4_makeForms 63 = .ok (.invokevirtual 122, 3) := zdcg 10 zdT_dX4_makeForms_43 rfl
theorem dX4_makeForms_66 : decode cX4_makeForms 66 = .ok (.return_, 1) := zdcg 11 zdT_dX4_makeForms_43 rfl
theorem zdT_dX4_makeMovedForms_0 : zdch cX4_makeMovedForms [(0, (.iconst 0, 1)), (1, (.istore 4, 2)), (3, (.iload 4, 2)), (5, (.aload_n 0, 1)), (6, (.getfield 39, 3)), (9, (.if_icmp .ge 122, 3)), (12, (.iconst 0, 1)), (13, (.istore 5, 2)), (15, (.iload 5, 2)), (17, (.aload_n 0, 1)), (18, (.getfield 60, 3)), (21, (.if_icmp .ge 32, 3)), (24, (.aload_n 2, 1)), (25, (.aload_n 0, 1)), (26, (.aload_n 0, 1)), (27, (.getfield 50, 3)), (30, (.iload 4, 2)), (32, (.aaload, 1)), (33, (.iload 5, 2)), (35, (.aload_n 1, 1)), (36, (.invokevirtual 118, 3)), (39, (.aload_n 0, 1)), (40, (.getfield 66, 3)), (43, (.iload 5, 2)), (45, (.iaload, 1))] = true := by decide +kernel
theorem dX4_makeMovedForms_0 : decode cX4_makeMovedForms 0 = .ok (.iconst 0, 1) := zdcg 0 zdT_dX4_makeMovedForms_0 rfl
theorem dX4_makeMovedForms_1 : decode cX4_makeMovedForms 1 = .ok (.istore 4, 2) := zdcg 1 zdT_dX4_makeMovedForms_0 rfl
theorem dX4_makeMovedForms_3 : decode cX4_makeMovedForms 3 = .ok (.iload 4, 2) := zdcg 2 zdT_dX4_makeMovedForms_0 rfl
theorem dX4_makeMovedForms_5 : decode cX4_makeMovedForms 5 = .ok (.aload_n 0, 1) := zdcg 3 zdT_dX4_makeMovedForms_0 rfl
theorem dX4_makeMovedForms_6 : decode cX4_makeMovedForms 6 = .ok (.getfield 39, 3) := zdcg 4 zdT_dX4_makeMovedForms_0 rfl
theorem dX4_makeMovedForms_9 : decode cX4_makeMovedForms 9 = .ok (.if_icmp .ge 122, 3) := zdcg 5 zdT_dX4_makeMovedForms_0 rfl
theorem dX4_makeMovedForms_12 : decode cX4_makeMovedForms 12 = .ok (.iconst 0, 1) := zdcg 6 zdT_dX4_makeMovedForms_0 rfl
theorem dX4_makeMovedForms_13 : decode cX4_makeMovedForms 13 = .ok (.istore 5, 2) := zdcg 7 zdT_dX4_makeMovedForms_0 rfl
theorem dX4_makeMovedForms_15 : decode cX4_makeMovedForms 15 = .ok (.iload 5, 2) := zdcg 8 zdT_dX4_makeMovedForms_0 rfl
theorem dX4_makeMovedForms_17 : decode cX4_makeMovedForms 17 = .ok (.aload_n 0, 1) := zdcg 9 zdT_dX4_makeMovedForms_0 rfl
theorem dX4_makeMovedForms_18 : decode cX4_makeMovedForms 18 = .ok (.getfield 60, 3) := zdcg 10 zdT_dX4_makeMovedForms_0 rfl
theorem dX4_makeMovedForms_21 : decode cX4_makeMovedForms 21 = .ok (.if_icmp .ge 32, 3) := zdcg 11 zdT_dX4_makeMovedForms_0 rfl
theorem dX4_makeMovedForms_24 : decode cX4_makeMovedForms 24 = .ok (.aload_n 2, 1) := zdcg 12 zdT_dX4_makeMovedForms_0 rfl
theorem dX4_makeMovedForms_25 : decode cX4_makeMovedForms 25 = .ok (.aload_n 0, 1) := zdcg 13 zdT_dX4_makeMovedForms_0 rfl
theorem dX4_makeMovedForms_26 : decode cX4_makeMovedForms 26 = .ok (.aload_n 0, 1) := zdcg 14 zdT_dX4_makeMovedForms_0 rfl
theorem dX4_makeMovedForms_27 : decode cX4_makeMovedForms 27 = .ok (.getfield 50, 3) := zdcg 15 zdT_dX4_makeMovedForms_0 rfl
theorem dX4_makeMovedForms_30 : decode cX4_makeMovedForms 30 = .ok (.iload 4, 2) := zdcg 16 zdT_dX4_makeMovedForms_0 rfl
theorem dX4_makeMovedForms_32 : decode cX4_makeMovedForms 32 = .ok (.aaload, 1) := zdcg 17 zdT_dX4_makeMovedForms_0 rfl
theorem dX4_makeMovedForms_33 : decode cX4_makeMovedForms 33 = .ok (.iload 5, 2) := zdcg 18 zdT_dX4_makeMovedForms_0 rfl
theorem dX4_makeMovedForms_35 : decode cX4_makeMovedForms 35 = .ok (.aload_n 1, 1) := zdcg 19 zdT_dX4_makeMovedForms_0 rfl
theorem dX4_makeMovedForms_36 : decode cX4_makeMovedForms 36 = .ok (.invokevirtual 118, 3) := zdcg 20 zdT_dX4_makeMovedForms_0 rfl
theorem dX4_makeMovedForms_39 : decode cX4_makeMovedForms 39 = .ok (.aload_n 0, 1) := zdcg 21 zdT_dX4_makeMovedForms_0 rfl
theorem dX4_makeMovedForms_40 : decode cX4_makeMovedForms 40 = .ok (.getfield 66, 3) := zdcg 22 zdT_dX4_makeMovedForms_0 rfl
theorem dX4_makeMovedForms_43 : decode cX4_makeMovedForms 43 = .ok (.iload 5, 2) := zdcg 23 zdT_dX4_makeMovedForms_0 rfl
theorem dX4_makeMovedForms_45 : decode cX4_makeMovedForms 45 = .ok (.iaload, 1) := zdcg 24 zdT_dX4_makeMovedForms_0 rfl
theorem zdT_dX4_makeMovedForms_46 : zdch cX4_makeMovedForms [(46, (.iastore, 1)), (47, (.iinc 5 1, 3)), (50, (.goto (-35), 3)), (53, (.iconst 0, 1)), (54, (.istore 5, 2)), (56, (.iload 5, 2)), (58, (.aload_n 0, 1)), (59, (.getfield 39, 3)), (62, (.if_icmp .ge 28, 3)), (65, (.aload_n 3, 1)), (66, (.iload 4, 2)), (68, (.aaload, 1)), (69, (.iload 5, 2)), (71, (.aload_n 0, 1)), (72, (.aload_n 0, 1)), (73, (.getfield 86, 3)), (76, (.iload 5, 2)), (78, (.aaload, 1)), (79, (.aload_n 2, 1)), (80, (.invokevirtual 126, 3)), (83, (.iastore, 1)), (84, (.iinc 5 1, 3)), (87, (.goto (-31), 3)), (90, (.iconst 0, 1)), (91, (.istore 5, 2))] = true := by decide +kernel
theorem dX4_makeMovedForms_46 : decode cX4_makeMovedForms 46 = .ok (.iastore, 1) := zdcg 0 zdT_dX4_makeMovedForms_46 rfl
theorem dX4_makeMovedForms_47 : decode cX4_makeMovedForms 47 = .ok (.iinc 5 1, 3) := zdcg 1 zdT_dX4_makeMovedForms_46 rfl
theorem dX4_makeMovedForms_50 : decode cX4_makeMovedForms 50 = .ok (.goto (-35), 3) := zdcg 2 zdT_dX4_makeMovedForms_46 rfl
theorem dX4_makeMovedForms_53 : decode cX4_makeMovedForms 53 = .ok (.iconst 0, 1) := zdcg 3 zdT_dX4_makeMovedForms_46 rfl
theorem dX4_makeMovedForms_54 : decode cX4_makeMovedForms 54 = .ok (.istore 5, 2) := zdcg 4 zdT_dX4_makeMovedForms_46 rfl
theorem dX4_makeMovedForms_56 : decode cX4_makeMovedForms 56 = .ok (.iload 5, 2) := zdcg 5 zdT_dX4_makeMovedForms_46 rfl
theorem dX4_makeMovedForms_58 : decode cX4_makeMovedForms 58 = .ok (.aload_n 0, 1) := zdcg 6 zdT_dX4_makeMovedForms_46 rfl
theorem dX4_makeMovedForms_59 : decode cX4_makeMovedForms 59 = .ok (.getfield 39, 3) := zdcg 7 zdT_dX4_makeMovedForms_46 rfl
theorem dX4_makeMovedForms_62 : decode cX4_makeMovedForms 62 = .ok (.if_icmp .ge 28, 3) := zdcg 8 zdT_dX4_makeMovedForms_46 rfl
theorem dX4_makeMovedForms_65 : decode cX4_makeMovedForms 65 = .ok (.aload_n 3, 1) := zdcg 9 zdT_dX4_makeMovedForms_46 rfl
theorem dX4_makeMovedForms_66 : decode cX4_makeMovedForms 66 = .ok (.iload 4, 2) := zdcg 10 zdT_dX4_makeMovedForms_46 rfl
theorem dX4_makeMovedForms_68 : decode cX4_makeMovedForms 68 = .ok (.aaload, 1) := zdcg 11 zdT_dX4_makeMovedForms_46 rfl
theorem dX4_makeMovedForms_69 : decode cX4_makeMovedForms 69 = .ok (.iload 5, 2) := zdcg 12 zdT_dX4_makeMovedForms_46 rfl
theorem dX4_makeMovedForms_71 : decode cX4_makeMovedForms 71 = .ok (.aload_n 0, 1) := zdcg 13 zdT_dX4_makeMovedForms_46 rfl
theorem dX4_makeMovedForms_72 : decode cX4_makeMovedForms 72 = .ok (.aload_n 0, 1) := zdcg 14 zdT_dX4_makeMovedForms_46 rfl
theorem dX4_makeMovedForms_73 : decode cX4_makeMovedForms 73 = .ok (.getfield 86, 3) := zdcg 15 zdT_dX4_makeMovedForms_46 rfl
theorem dX4_makeMovedForms_76 : decode cX4_makeMovedForms 76 = .ok (.iload 5, 2) := zdcg 16 zdT_dX4_makeMovedForms_46 rfl
theorem dX4_makeMovedForms_78 : decode cX4_makeMovedForms 78 = .ok (.aaload, 1) := zdcg 17 zdT_dX4_makeMovedForms_46 rfl
theorem dX4_makeMovedForms_79 : decode cX4_makeMovedForms 79 = .ok (.aload_n 2, 1) := zdcg 18 zdT_dX4_makeMovedForms_46 rfl
theorem dX4_makeMovedForms_80 : decode cX4_makeMovedForms 80 = .ok (.invokevirtual 126, 3) := zdcg 19 zdT_dX4_makeMovedForms_46 rfl
theorem dX4_makeMovedForms_83 : decode cX4_makeMovedForms 83 = .ok (.iastore, 1) := zdcg 20 zdT_dX4_makeMovedForms_46 rfl
theorem dX4_makeMovedForms_84 : decode cX4_makeMovedForms 84 = .ok (.iinc 5 1, 3) := zdcg 21 zdT_dX4_makeMovedForms_46 rfl
theorem dX4_makeMovedForms_87 : decode cX4_makeMovedForms 87 = .ok (.goto (-31), 3) := zdcg 22 zdT_dX4_makeMovedForms_46 rfl
theorem dX4_makeMovedForms_90 : decode cX4_makeMovedForms 90 = .ok (.iconst 0, 1) := zdcg 23 zdT_dX4_makeMovedForms_46 rfl
theorem dX4_makeMovedForms_91 : decode cX4_makeMovedForms 91 = .ok (.istore 5, 2) := zdcg 24 zdT_dX4_makeMovedForms_46 rfl
theorem zdT_dX4_makeMovedForms_93 : zdch cX4_makeMovedForms [(93, (.iload 5, 2)), (95, (.aload_n 0, 1)), (96, (.getfield 60, 3)), (99, (.if_icmp .ge 26, 3)), (102, (.aload_n 2, 1)), (103, (.aload_n 0, 1)), (104, (.aload_n 0, 1)), (105, (.getfield 50, 3)), (108, (.iload 4, 2)), (110, (.aaload, 1)), (111, (.iload 5, 2)), (113, (.aload_n 1, 1)), (114, (.invokevirtual 118, 3)), (117, (.iconst 0, 1)), (118, (.iastore, 1)), (119, (.iinc 5 1, 3)), (122, (.goto (-29), 3)), (125, (.iinc 4 1, 3)), (128, (.goto (-125), 3)), (131, (.return_, 1))] = true := by decide +kernel
theorem dX4_makeMovedForms_93 : decode cX4_makeMovedForms 93 = .ok (.iload 5, 2) := zdcg 0 zdT_dX4_makeMovedForms_93 rfl
theorem dX4_makeMovedForms_95 : decode cX4_makeMovedForms 95 = .ok (.aload_n 0, 1) := zdcg 1 zdT_dX4_makeMovedForms_93 rfl
theorem dX4_makeMovedForms_96 : decode cX4_makeMovedForms 96 = .ok (.getfield 60, 3) := zdcg 2 zdT_dX4_makeMovedForms_93 rfl
theorem dX4_makeMovedForms_99 : decode cX4_makeMovedForms 99 = .ok (.if_icmp .ge 26, 3) := zdcg 3 zdT_dX4_makeMovedForms_93 rfl
theorem dX4_makeMovedForms_102 : decode cX4_makeMovedForms 102 = .ok (.aload_n 2, 1) := zdcg 4 zdT_dX4_makeMovedForms_93 rfl
theorem dX4_makeMovedForms_103 : decode cX4_makeMovedForms 103 = .ok (.aload_n 0, 1) := zdcg 5 zdT_dX4_makeMovedForms_93 rfl
theorem dX4_makeMovedForms_104 : decode cX4_makeMovedForms 104 = .ok (.aload_n 0, 1) := zdcg 6 zdT_dX4_makeMovedForms_93 rfl
theorem dX4_makeMovedForms_105 : decode cX4_makeMovedForms 105 = .ok (.getfield 50, 3) := zdcg 7 zdT_dX4_makeMovedForms_93 rfl
theorem dX4_makeMovedForms_108 : decode cX4_makeMovedForms 108 = .ok (.iload 4, 2) := zdcg 8 zdT_dX4_makeMovedForms_93 rfl
theorem dX4_makeMovedForms_110 : decode cX4_makeMovedForms 110 = .ok (.aaload, 1) := zdcg 9 zdT_dX4_makeMovedForms_93 rfl
theorem dX4_makeMovedForms_111 : decode cX4_makeMovedForms 111 = .ok (.iload 5, 2) := zdcg 10 zdT_dX4_makeMovedForms_93 rfl
theorem dX4_makeMovedForms_113 : decode cX4_makeMovedForms 113 = .ok (.aload_n 1, 1) := zdcg 11 zdT_dX4_makeMovedForms_93 rfl
theorem dX4_makeMovedForms_114 : decode cX4_makeMovedForms 114 = .ok (.invokevirtual 118, 3) := zdcg 12 zdT_dX4_makeMovedForms_93 rfl
theorem dX4_makeMovedForms_117 : decode cX4_makeMovedForms 117 = .ok (.iconst 0, 1) := zdcg 13 zdT_dX4_makeMovedForms_93 rfl
theorem dX4_makeMovedForms_118 : decode cX4_makeMovedForms 118 = .ok (.iastore, 1) := zdcg 14 zdT_dX4_makeMovedForms_93 rfl
theorem dX4_makeMovedForms_119 : decode cX4_makeMovedForms 119 = .ok (.iinc 5 1, 3) := zdcg 15 zdT_dX4_makeMovedForms_93 rfl
theorem dX4_makeMovedForms_122 : decode cX4_makeMovedForms 122 = .ok (.goto (-29), 3) := zdcg 16 zdT_dX4_makeMovedForms_93 rfl
theorem dX4_makeMovedForms_125 : decode cX4_makeMovedForms 125 = .ok (.iinc 4 1, 3) := zdcg 17 zdT_dX4_makeMovedForms_93 rfl
theorem dX4_makeMovedForms_128 : decode cX4_makeMovedForms 128 = .ok (.goto (-125), 3) := zdcg 18 zdT_dX4_makeMovedForms_93 rfl
theorem dX4_makeMovedForms_131 : decode cX4_makeMovedForms 131 = .ok (.return_, 1) := zdcg 19 zdT_dX4_makeMovedForms_93 rfl
theorem zdT_dX4_formWith_0 : zdch cX4_formWith [(0, (.iconst 0, 1)), (1, (.istore_n 3, 1)), (2, (.iconst 0, 1)), (3, (.istore 4, 2)), (5, (.iload 4, 2)), (7, (.aload_n 0, 1)), (8, (.getfield 60, 3)), (11, (.if_icmp .ge 26, 3)), (14, (.iload_n 3, 1)), (15, (.aload_n 0, 1)), (16, (.getfield 66, 3)), (19, (.iload 4, 2)), (21, (.iaload, 1)), (22, (.aload_n 2, 1)), (23, (.aload_n 1, 1)), (24, (.iload 4, 2)), (26, (.iaload, 1)), (27, (.iaload, 1)), (28, (.imul, 1)), (29, (.iadd, 1)), (30, (.istore_n 3, 1)), (31, (.iinc 4 1, 3)), (34, (.goto (-29), 3)), (37, (.iload_n 3, 1)), (38, (.ireturn, 1))] = true := by decide +kernel
theorem dX4_formWith_0 : decode cX4_formWith 0 = .ok (.iconst 0, 1) := zdcg 0 zdT_dX4_formWith_0 rfl
theorem dX4_formWith_1 : decode cX4_formWith 1 = .ok (.istore_n 3, 1) := zdcg 1 zdT_dX4_formWith_0 rfl
theorem dX4_formWith_2 : decode cX4_formWith 2 = .ok (.iconst 0, 1) := zdcg 2 zdT_dX4_formWith_0 rfl
theorem dX4_formWith_3 : decode cX4_formWith 3 = .ok (.istore 4, 2) := zdcg 3 zdT_dX4_formWith_0 rfl
theorem dX4_formWith_5 : decode cX4_formWith 5 = .ok (.iload 4, 2) := zdcg 4 zdT_dX4_formWith_0 rfl
theorem dX4_formWith_7 : decode cX4_formWith 7 = .ok (.aload_n 0, 1) := zdcg 5 zdT_dX4_formWith_0 rfl
theorem dX4_formWith_8 : decode cX4_formWith 8 = .ok (.getfield 60, 3) := zdcg 6 zdT_dX4_formWith_0 rfl
theorem dX4_formWith_11 : decode cX4_formWith 11 = .ok (.if_icmp .ge 26, 3) := zdcg 7 zdT_dX4_formWith_0 rfl
theorem dX4_formWith_14 : decode cX4_formWith 14 = .ok (.iload_n 3, 1) := zdcg 8 zdT_dX4_formWith_0 rfl
theorem dX4_formWith_15 : decode cX4_formWith 15 = .ok (.aload_n 0, 1) := zdcg 9 zdT_dX4_formWith_0 rfl
theorem dX4_formWith_16 : decode cX4_formWith 16 = .ok (.getfield 66, 3) := zdcg 10 zdT_dX4_formWith_0 rfl
theorem dX4_formWith_19 : decode cX4_formWith 19 = .ok (.iload 4, 2) := zdcg 11 zdT_dX4_formWith_0 rfl
theorem dX4_formWith_21 : decode cX4_formWith 21 = .ok (.iaload, 1) := zdcg 12 zdT_dX4_formWith_0 rfl
theorem dX4_formWith_22 : decode cX4_formWith 22 = .ok (.aload_n 2, 1) := zdcg 13 zdT_dX4_formWith_0 rfl
theorem dX4_formWith_23 : decode cX4_formWith 23 = .ok (.aload_n 1, 1) := zdcg 14 zdT_dX4_formWith_0 rfl
theorem dX4_formWith_24 : decode cX4_formWith 24 = .ok (.iload 4, 2) := zdcg 15 zdT_dX4_formWith_0 rfl
theorem dX4_formWith_26 : decode cX4_formWith 26 = .ok (.iaload, 1) := zdcg 16 zdT_dX4_formWith_0 rfl
theorem dX4_formWith_27 : decode cX4_formWith 27 = .ok (.iaload, 1) := zdcg 17 zdT_dX4_formWith_0 rfl
theorem dX4_formWith_28 : decode cX4_formWith 28 = .ok (.imul, 1) := zdcg 18 zdT_dX4_formWith_0 rfl
theorem dX4_formWith_29 : decode cX4_formWith 29 = .ok (.iadd, 1) := zdcg 19 zdT_dX4_formWith_0 rfl
theorem dX4_formWith_30 : decode cX4_formWith 30 = .ok (.istore_n 3, 1) := zdcg 20 zdT_dX4_formWith_0 rfl
theorem dX4_formWith_31 : decode cX4_formWith 31 = .ok (.iinc 4 1, 3) := zdcg 21 zdT_dX4_formWith_0 rfl
theorem dX4_formWith_34 : decode cX4_formWith 34 = .ok (.goto (-29), 3) := zdcg 22 zdT_dX4_formWith_0 rfl
theorem dX4_formWith_37 : decode cX4_formWith 37 = .ok (.iload_n 3, 1) := zdcg 23 zdT_dX4_formWith_0 rfl
theorem dX4_formWith_38 : decode cX4_formWith 38 = .ok (.ireturn, 1) := zdcg 24 zdT_dX4_formWith_0 rfl
theorem zdT_dX5_init_0 : zdch cX5_init [(0, (.aload_n 0, 1)), (1, (.invokespecial 3, 3)), (4, (.aload_n 0, 1)), (5, (.aload_n 1, 1)), (6, (.putfield 9, 3)), (9, (.aload_n 0, 1)), (10, (.iload_n 2, 1)), (11, (.putfield 15, 3)), (14, (.aload_n 1, 1)), (15, (.getfield 19, 3)), (18, (.istore_n 3, 1)), (19, (.aload_n 0, 1)), (20, (.iload_n 3, 1)), (21, (.newarray .int, 2)), (23, (.putfield 24, 3)), (26, (.aload_n 0, 1)), (27, (.iload_n 3, 1)), (28, (.newarray .boolean, 2)), (30, (.putfield 28, 3)), (33, (.aload_n 0, 1)), (34, (.invokevirtual 32, 3)), (37, (.aload_n 0, 1)), (38, (.iload_n 3, 1)), (39, (.newarray .int, 2)), (41, (.putfield 35, 3))] = true := by decide +kernel
theorem dX5_init_0 : decode cX5_init 0 = .ok (.aload_n 0, 1) := zdcg 0 zdT_dX5_init_0 rfl
theorem dX5_init_1 : decode cX5_init 1 = .ok (.invokespecial 3, 3) := zdcg 1 zdT_dX5_init_0 rfl
theorem dX5_init_4 : decode cX5_init 4 = .ok (.aload_n 0, 1) := zdcg 2 zdT_dX5_init_0 rfl
theorem dX5_init_5 : decode cX5_init 5 = .ok (.aload_n 1, 1) := zdcg 3 zdT_dX5_init_0 rfl
theorem dX5_init_6 : decode cX5_init 6 = .ok (.putfield 9, 3) := zdcg 4 zdT_dX5_init_0 rfl
theorem dX5_init_9 : decode cX5_init 9 = .ok (.aload_n 0, 1) := zdcg 5 zdT_dX5_init_0 rfl
theorem dX5_init_10 : decode cX5_init 10 = .ok (.iload_n 2, 1) := zdcg 6 zdT_dX5_init_0 rfl
theorem dX5_init_11 : decode cX5_init 11 = .ok (.putfield 15, 3) := zdcg 7 zdT_dX5_init_0 rfl
theorem dX5_init_14 : decode cX5_init 14 = .ok (.aload_n 1, 1) := zdcg 8 zdT_dX5_init_0 rfl
theorem dX5_init_15 : decode cX5_init 15 = .ok (.getfield 19, 3) := zdcg 9 zdT_dX5_init_0 rfl
theorem dX5_init_18 : decode cX5_init 18 = .ok (.istore_n 3, 1) := zdcg 10 zdT_dX5_init_0 rfl
theorem dX5_init_19 : decode cX5_init 19 = .ok (.aload_n 0, 1) := zdcg 11 zdT_dX5_init_0 rfl
theorem dX5_init_20 : decode cX5_init 20 = .ok (.iload_n 3, 1) := zdcg 12 zdT_dX5_init_0 rfl
theorem dX5_init_21 : decode cX5_init 21 = .ok (.newarray .int, 2) := zdcg 13 zdT_dX5_init_0 rfl
theorem dX5_init_23 : decode cX5_init 23 = .ok (.putfield 24, 3) := zdcg 14 zdT_dX5_init_0 rfl
theorem dX5_init_26 : decode cX5_init 26 = .ok (.aload_n 0, 1) := zdcg 15 zdT_dX5_init_0 rfl
theorem dX5_init_27 : decode cX5_init 27 = .ok (.iload_n 3, 1) := zdcg 16 zdT_dX5_init_0 rfl
theorem dX5_init_28 : decode cX5_init 28 = .ok (.newarray .boolean, 2) := zdcg 17 zdT_dX5_init_0 rfl
theorem dX5_init_30 : decode cX5_init 30 = .ok (.putfield 28, 3) := zdcg 18 zdT_dX5_init_0 rfl
theorem dX5_init_33 : decode cX5_init 33 = .ok (.aload_n 0, 1) := zdcg 19 zdT_dX5_init_0 rfl
theorem dX5_init_34 : decode cX5_init 34 = .ok (.invokevirtual 32, 3) := zdcg 20 zdT_dX5_init_0 rfl
theorem dX5_init_37 : decode cX5_init 37 = .ok (.aload_n 0, 1) := zdcg 21 zdT_dX5_init_0 rfl
theorem dX5_init_38 : decode cX5_init 38 = .ok (.iload_n 3, 1) := zdcg 22 zdT_dX5_init_0 rfl
theorem dX5_init_39 : decode cX5_init 39 = .ok (.newarray .int, 2) := zdcg 23 zdT_dX5_init_0 rfl
theorem dX5_init_41 : decode cX5_init 41 = .ok (.putfield 35, 3) := zdcg 24 zdT_dX5_init_0 rfl
theorem zdT_dX5_init_44 : zdch cX5_init [(44, (.aload_n 0, 1)), (45, (.iload_n 3, 1)), (46, (.iload_n 3, 1)), (47, (.multianewarray 38 2, 4)), (51, (.putfield 40, 3)), (54, (.aload_n 0, 1)), (55, (.invokevirtual 43, 3)), (58, (.aload_n 0, 1)), (59, (.iload_n 3, 1)), (60, (.iload_n 3, 1)), (61, (.multianewarray 38 2, 4)), (65, (.putfield 46, 3)), (68, (.aload_n 0, 1)), (69, (.invokevirtual 49, 3)), (72, (.aload_n 0, 1)), (73, (.iload_n 3, 1)), (74, (.iload_n 3, 1)), (75, (.multianewarray 38 2, 4)), (79, (.putfield 52, 3)), (82, (.aload_n 0, 1)), (83, (.iload_n 3, 1)), (84, (.iload_n 3, 1)), (85, (.multianewarray 38 2, 4)), (89, (.putfield 55, 3)), (92, (.aload_n 0, 1))] = true := by decide +kernel
theorem dX5_init_44 : decode cX5_init 44 = .ok (.aload_n 0, 1) := zdcg 0 zdT_dX5_init_44 rfl
theorem dX5_init_45 : decode cX5_init 45 = .ok (.iload_n 3, 1) := zdcg 1 zdT_dX5_init_44 rfl
theorem dX5_init_46 : decode cX5_init 46 = .ok (.iload_n 3, 1) := zdcg 2 zdT_dX5_init_44 rfl
theorem dX5_init_47 : decode cX5_init 47 = .ok (.multianewarray 38 2, 4) := zdcg 3 zdT_dX5_init_44 rfl
theorem dX5_init_51 : decode cX5_init 51 = .ok (.putfield 40, 3) := zdcg 4 zdT_dX5_init_44 rfl
theorem dX5_init_54 : decode cX5_init 54 = .ok (.aload_n 0, 1) := zdcg 5 zdT_dX5_init_44 rfl
theorem dX5_init_55 : decode cX5_init 55 = .ok (.invokevirtual 43, 3) := zdcg 6 zdT_dX5_init_44 rfl
theorem dX5_init_58 : decode cX5_init 58 = .ok (.aload_n 0, 1) := zdcg 7 zdT_dX5_init_44 rfl
theorem dX5_init_59 : decode cX5_init 59 = .ok (.iload_n 3, 1) := zdcg 8 zdT_dX5_init_44 rfl
theorem dX5_init_60 : decode cX5_init 60 = .ok (.iload_n 3, 1) := zdcg 9 zdT_dX5_init_44 rfl
theorem dX5_init_61 : decode cX5_init 61 = .ok (.multianewarray 38 2, 4) := zdcg 10 zdT_dX5_init_44 rfl
theorem dX5_init_65 : decode cX5_init 65 = .ok (.putfield 46, 3) := zdcg 11 zdT_dX5_init_44 rfl
theorem dX5_init_68 : decode cX5_init 68 = .ok (.aload_n 0, 1) := zdcg 12 zdT_dX5_init_44 rfl
theorem dX5_init_69 : decode cX5_init 69 = .ok (.invokevirtual 49, 3) := zdcg 13 zdT_dX5_init_44 rfl
theorem dX5_init_72 : decode cX5_init 72 = .ok (.aload_n 0, 1) := zdcg 14 zdT_dX5_init_44 rfl
theorem dX5_init_73 : decode cX5_init 73 = .ok (.iload_n 3, 1) := zdcg 15 zdT_dX5_init_44 rfl
theorem dX5_init_74 : decode cX5_init 74 = .ok (.iload_n 3, 1) := zdcg 16 zdT_dX5_init_44 rfl
theorem dX5_init_75 : decode cX5_init 75 = .ok (.multianewarray 38 2, 4) := zdcg 17 zdT_dX5_init_44 rfl
theorem dX5_init_79 : decode cX5_init 79 = .ok (.putfield 52, 3) := zdcg 18 zdT_dX5_init_44 rfl
theorem dX5_init_82 : decode cX5_init 82 = .ok (.aload_n 0, 1) := zdcg 19 zdT_dX5_init_44 rfl
theorem dX5_init_83 : decode cX5_init 83 = .ok (.iload_n 3, 1) := zdcg 20 zdT_dX5_init_44 rfl
theorem dX5_init_84 : decode cX5_init 84 = .ok (.iload_n 3, 1) := zdcg 21 zdT_dX5_init_44 rfl
theorem dX5_init_85 : decode cX5_init 85 = .ok (.multianewarray 38 2, 4) := zdcg 22 zdT_dX5_init_44 rfl
theorem dX5_init_89 : decode cX5_init 89 = .ok (.putfield 55, 3) := zdcg 23 zdT_dX5_init_44 rfl
theorem dX5_init_92 : decode cX5_init 92 = .ok (.aload_n 0, 1) := zdcg 24 zdT_dX5_init_44 rfl
theorem zdT_dX5_init_93 : zdch cX5_init [(93, (.invokevirtual 58, 3)), (96, (.aload_n 0, 1)), (97, (.invokevirtual 61, 3)), (100, (.aload_n 0, 1)), (101, (.new 64, 3)), (104, (.dup, 1)), (105, (.aload_n 1, 1)), (106, (.iload_n 2, 1)), (107, (.aload_n 0, 1)), (108, (.getfield 24, 3)), (111, (.invokespecial 66, 3)), (114, (.putfield 69, 3)), (117, (.aload_n 0, 1)), (118, (.aload_n 0, 1)), (119, (.getfield 69, 3)), (122, (.getfield 73, 3)), (125, (.newarray .int, 2)), (127, (.putfield 74, 3)), (130, (.aload_n 0, 1)), (131, (.invokevirtual 77, 3)), (134, (.return_, 1))] = true := by decide +kernel
theorem dX5_init_93 : decode cX5_init 93 = .ok (.invokevirtual 58, 3) := zdcg 0 zdT_dX5_init_93 rfl
theorem dX5_init_96 : decode cX5_init 96 = .ok (.aload_n 0, 1) := zdcg 1 zdT_dX5_init_93 rfl
theorem dX5_init_97 : decode cX5_init 97 = .ok (.invokevirtual 61, 3) := zdcg 2 zdT_dX5_init_93 rfl
theorem dX5_init_100 : decode cX5_init 100 = .ok (.aload_n 0, 1) := zdcg 3 zdT_dX5_init_93 rfl
theorem dX5_init_101 : decode cX5_init 101 = .ok (.new 64, 3) := zdcg 4 zdT_dX5_init_93 rfl
theorem dX5_init_104 : decode cX5_init 104 = .ok (.dup, 1) := zdcg 5 zdT_dX5_init_93 rfl
theorem dX5_init_105 : decode cX5_init 105 = .ok (.aload_n 1, 1) := zdcg 6 zdT_dX5_init_93 rfl
theorem dX5_init_106 : decode cX5_init 106 = .ok (.iload_n 2, 1) := zdcg 7 zdT_dX5_init_93 rfl
theorem dX5_init_107 : decode cX5_init 107 = .ok (.aload_n 0, 1) := zdcg 8 zdT_dX5_init_93 rfl
theorem dX5_init_108 : decode cX5_init 108 = .ok (.getfield 24, 3) := zdcg 9 zdT_dX5_init_93 rfl
theorem dX5_init_111 : decode cX5_init 111 = .ok (.invokespecial 66, 3) := zdcg 10 zdT_dX5_init_93 rfl
theorem dX5_init_114 : decode cX5_init 114 = .ok (.putfield 69, 3) := zdcg 11 zdT_dX5_init_93 rfl
theorem dX5_init_117 : decode cX5_init 117 = .ok (.aload_n 0, 1) := zdcg 12 zdT_dX5_init_93 rfl
theorem dX5_init_118 : decode cX5_init 118 = .ok (.aload_n 0, 1) := zdcg 13 zdT_dX5_init_93 rfl
theorem dX5_init_119 : decode cX5_init 119 = .ok (.getfield 69, 3) := zdcg 14 zdT_dX5_init_93 rfl
theorem dX5_init_122 : decode cX5_init 122 = .ok (.getfield 73, 3) := zdcg 15 zdT_dX5_init_93 rfl
theorem dX5_init_125 : decode cX5_init 125 = .ok (.newarray .int, 2) := zdcg 16 zdT_dX5_init_93 rfl
theorem dX5_init_127 : decode cX5_init 127 = .ok (.putfield 74, 3) := zdcg 17 zdT_dX5_init_93 rfl
theorem dX5_init_130 : decode cX5_init 130 = .ok (.aload_n 0, 1) := zdcg 18 zdT_dX5_init_93 rfl
theorem dX5_init_131 : decode cX5_init 131 = .ok (.invokevirtual 77, 3) := zdcg 19 zdT_dX5_init_93 rfl
theorem dX5_init_134 : decode cX5_init 134 = .ok (.return_, 1) := zdcg 20 zdT_dX5_init_93 rfl
theorem zdT_dX5_isRegular_0 : zdch cX5_isRegular [(0, (.aload_n 0, 1)), (1, (.getfield 24, 3)), (4, (.iload_n 1, 1)), (5, (.iaload, 1)), (6, (.iconst (-1), 1)), (7, (.if_icmp .eq 7, 3)), (10, (.iconst 1, 1)), (11, (.goto 4, 3)), (14, (.iconst 0, 1)), (15, (.ireturn, 1))] = true := by decide +kernel
theorem dX5_isRegular_0 : decode cX5_isRegular 0 = .ok (.aload_n 0, 1) := zdcg 0 zdT_dX5_isRegular_0 rfl
theorem dX5_isRegular_1 : decode cX5_isRegular 1 = .ok (.getfield 24, 3) := zdcg 1 zdT_dX5_isRegular_0 rfl
theorem dX5_isRegular_4 : decode cX5_isRegular 4 = .ok (.iload_n 1, 1) := zdcg 2 zdT_dX5_isRegular_0 rfl
theorem dX5_isRegular_5 : decode cX5_isRegular 5 = .ok (.iaload, 1) := zdcg 3 zdT_dX5_isRegular_0 rfl
theorem dX5_isRegular_6 : decode cX5_isRegular 6 = .ok (.iconst (-1), 1) := zdcg 4 zdT_dX5_isRegular_0 rfl
theorem dX5_isRegular_7 : decode cX5_isRegular 7 = .ok (.if_icmp .eq 7, 3) := zdcg 5 zdT_dX5_isRegular_0 rfl
theorem dX5_isRegular_10 : decode cX5_isRegular 10 = .ok (.iconst 1, 1) := zdcg 6 zdT_dX5_isRegular_0 rfl
theorem dX5_isRegular_11 : decode cX5_isRegular 11 = .ok (.goto 4, 3) := zdcg 7 zdT_dX5_isRegular_0 rfl
theorem dX5_isRegular_14 : decode cX5_isRegular 14 = .ok (.iconst 0, 1) := zdcg 8 zdT_dX5_isRegular_0 rfl
theorem dX5_isRegular_15 : decode cX5_isRegular 15 = .ok (.ireturn, 1) := zdcg 9 zdT_dX5_isRegular_0 rfl
theorem zdT_dX5_markRegular_0 : zdch cX5_markRegular [(0, (.iconst 0, 1)), (1, (.istore_n 1, 1)), (2, (.iload_n 1, 1)), (3, (.aload_n 0, 1)), (4, (.getfield 9, 3)), (7, (.getfield 19, 3)), (10, (.if_icmp .ge 152, 3)), (13, (.aload_n 0, 1)), (14, (.getfield 9, 3)), (17, (.getfield 80, 3)), (20, (.iload_n 1, 1)), (21, (.aaload, 1)), (22, (.getfield 84, 3)), (25, (.astore_n 2, 1)), (26, (.iconst 1, 1)), (27, (.istore_n 3, 1)), (28, (.iconst 1, 1)), (29, (.istore 4, 2)), (31, (.iconst 0, 1)), (32, (.istore 5, 2)), (34, (.iconst 0, 1)), (35, (.istore 6, 2)), (37, (.iload 6, 2)), (39, (.aload_n 2, 1)), (40, (.arraylength, 1))] = true := by decide +kernel
theorem dX5_markRegular_0 : decode cX5_markRegular 0 = .ok (.iconst 0, 1) := zdcg 0 zdT_dX5_markRegular_0 rfl
theorem dX5_markRegular_1 : decode cX5_markRegular 1 = .ok (.istore_n 1, 1) := zdcg 1 zdT_dX5_markRegular_0 rfl
theorem dX5_markRegular_2 : decode cX5_markRegular 2 = .ok (.iload_n 1, 1) := zdcg 2 zdT_dX5_markRegular_0 rfl
theorem dX5_markRegular_3 : decode cX5_markRegular 3 = .ok (.aload_n 0, 1) := zdcg 3 zdT_dX5_markRegular_0 rfl
theorem dX5_markRegular_4 : decode cX5_markRegular 4 = .ok (.getfield 9, 3) := zdcg 4 zdT_dX5_markRegular_0 rfl
theorem dX5_markRegular_7 : decode cX5_markRegular 7 = .ok (.getfield 19, 3) := zdcg 5 zdT_dX5_markRegular_0 rfl
theorem dX5_markRegular_10 : decode cX5_markRegular 10 = .ok (.if_icmp .ge 152, 3) := zdcg 6 zdT_dX5_markRegular_0 rfl
theorem dX5_markRegular_13 : decode cX5_markRegular 13 = .ok (.aload_n 0, 1) := zdcg 7 zdT_dX5_markRegular_0 rfl
theorem dX5_markRegular_14 : decode cX5_markRegular 14 = .ok (.getfield 9, 3) := zdcg 8 zdT_dX5_markRegular_0 rfl
theorem dX5_markRegular_17 : decode cX5_markRegular 17 = .ok (.getfield 80, 3) := zdcg 9 zdT_dX5_markRegular_0 rfl
theorem dX5_markRegular_20 : decode cX5_markRegular 20 = .ok (.iload_n 1, 1) := zdcg 10 zdT_dX5_markRegular_0 rfl
theorem dX5_markRegular_21 : decode cX5_markRegular 21 = .ok (.aaload, 1) := zdcg 11 zdT_dX5_markRegular_0 rfl
theorem dX5_markRegular_22 : decode cX5_markRegular 22 = .ok (.getfield 84, 3) := zdcg 12 zdT_dX5_markRegular_0 rfl
theorem dX5_markRegular_25 : decode cX5_markRegular 25 = .ok (.astore_n 2, 1) := zdcg 13 zdT_dX5_markRegular_0 rfl
theorem dX5_markRegular_26 : decode cX5_markRegular 26 = .ok (.iconst 1, 1) := zdcg 14 zdT_dX5_markRegular_0 rfl
theorem dX5_markRegular_27 : decode cX5_markRegular 27 = .ok (.istore_n 3, 1) := zdcg 15 zdT_dX5_markRegular_0 rfl
theorem dX5_markRegular_28 : decode cX5_markRegular 28 = .ok (.iconst 1, 1) := zdcg 16 zdT_dX5_markRegular_0 rfl
theorem dX5_markRegular_29 : decode cX5_markRegular 29 = .ok (.istore 4, 2) := zdcg 17 zdT_dX5_markRegular_0 rfl
theorem dX5_markRegular_31 : decode cX5_markRegular 31 = .ok (.iconst 0, 1) := zdcg 18 zdT_dX5_markRegular_0 rfl
theorem dX5_markRegular_32 : decode cX5_markRegular 32 = .ok (.istore 5, 2) := zdcg 19 zdT_dX5_markRegular_0 rfl
theorem dX5_markRegular_34 : decode cX5_markRegular 34 = .ok (.iconst 0, 1) := zdcg 20 zdT_dX5_markRegular_0 rfl
theorem dX5_markRegular_35 : decode cX5_markRegular 35 = .ok (.istore 6, 2) := zdcg 21 zdT_dX5_markRegular_0 rfl
theorem dX5_markRegular_37 : decode cX5_markRegular 37 = .ok (.iload 6, 2) := zdcg 22 zdT_dX5_markRegular_0 rfl
theorem dX5_markRegular_39 : decode cX5_markRegular 39 = .ok (.aload_n 2, 1) := zdcg 23 zdT_dX5_markRegular_0 rfl
theorem dX5_markRegular_40 : decode cX5_markRegular 40 = .ok (.arraylength, 1) := zdcg 24 zdT_dX5_markRegular_0 rfl
theorem zdT_dX5_markRegular_41 : zdch cX5_markRegular [(41, (.if_icmp .ge 76, 3)), (44, (.iload 6, 2)), (46, (.ifCond .le 23, 3)), (49, (.aload_n 2, 1)), (50, (.iload 6, 2)), (52, (.iconst 1, 1)), (53, (.isub, 1)), (54, (.iaload, 1)), (55, (.aload_n 2, 1)), (56, (.iload 6, 2)), (58, (.iaload, 1)), (59, (.if_icmp .ne 10, 3)), (62, (.iload 5, 2)), (64, (.iconst 1, 1)), (65, (.iadd, 1)), (66, (.goto 4, 3)), (69, (.iconst 1, 1)), (70, (.istore 5, 2)), (72, (.iload_n 3, 1)), (73, (.iload 5, 2)), (75, (.aload_n 0, 1)), (76, (.getfield 15, 3)), (79, (.if_icmp .ge 7, 3)), (82, (.iconst 1, 1)), (83, (.goto 4, 3))] = true := by decide +kernel
theorem dX5_markRegular_41 : decode cX5_markRegular 41 = .ok (.if_icmp .ge 76, 3) := zdcg 0 zdT_dX5_markRegular_41 rfl
theorem dX5_markRegular_44 : decode cX5_markRegular 44 = .ok (.iload 6, 2) := zdcg 1 zdT_dX5_markRegular_41 rfl
theorem dX5_markRegular_46 : decode cX5_markRegular 46 = .ok (.ifCond .le 23, 3) := zdcg 2 zdT_dX5_markRegular_41 rfl
theorem dX5_markRegular_49 : decode cX5_markRegular 49 = .ok (.aload_n 2, 1) := zdcg 3 zdT_dX5_markRegular_41 rfl
theorem dX5_markRegular_50 : decode cX5_markRegular 50 = .ok (.iload 6, 2) := zdcg 4 zdT_dX5_markRegular_41 rfl
theorem dX5_markRegular_52 : decode cX5_markRegular 52 = .ok (.iconst 1, 1) := zdcg 5 zdT_dX5_markRegular_41 rfl
theorem dX5_markRegular_53 : decode cX5_markRegular 53 = .ok (.isub, 1) := zdcg 6 zdT_dX5_markRegular_41 rfl
theorem dX5_markRegular_54 : decode cX5_markRegular 54 = .ok (.iaload, 1) := zdcg 7 zdT_dX5_markRegular_41 rfl
theorem dX5_markRegular_55 : decode cX5_markRegular 55 = .ok (.aload_n 2, 1) := zdcg 8 zdT_dX5_markRegular_41 rfl
theorem dX5_markRegular_56 : decode cX5_markRegular 56 = .ok (.iload 6, 2) := zdcg 9 zdT_dX5_markRegular_41 rfl
theorem dX5_markRegular_58 : decode cX5_markRegular 58 = .ok (.iaload, 1) := zdcg 10 zdT_dX5_markRegular_41 rfl
theorem dX5_markRegular_59 : decode cX5_markRegular 59 = .ok (.if_icmp .ne 10, 3) := zdcg 11 zdT_dX5_markRegular_41 rfl
theorem dX5_markRegular_62 : decode cX5_markRegular 62 = .ok (.iload 5, 2) := zdcg 12 zdT_dX5_markRegular_41 rfl
theorem dX5_markRegular_64 : decode cX5_markRegular 64 = .ok (.iconst 1, 1) := zdcg 13 zdT_dX5_markRegular_41 rfl
theorem dX5_markRegular_65 : decode cX5_markRegular 65 = .ok (.iadd, 1) := zdcg 14 zdT_dX5_markRegular_41 rfl
theorem dX5_markRegular_66 : decode cX5_markRegular 66 = .ok (.goto 4, 3) := zdcg 15 zdT_dX5_markRegular_41 rfl
theorem dX5_markRegular_69 : decode cX5_markRegular 69 = .ok (.iconst 1, 1) := zdcg 16 zdT_dX5_markRegular_41 rfl
theorem dX5_markRegular_70 : decode cX5_markRegular 70 = .ok (.istore 5, 2) := zdcg 17 zdT_dX5_markRegular_41 rfl
theorem dX5_markRegular_72 : decode cX5_markRegular 72 = .ok (.iload_n 3, 1) := zdcg 18 zdT_dX5_markRegular_41 rfl
theorem dX5_markRegular_73 : decode cX5_markRegular 73 = .ok (.iload 5, 2) := zdcg 19 zdT_dX5_markRegular_41 rfl
theorem dX5_markRegular_75 : decode cX5_markRegular 75 = .ok (.aload_n 0, 1) := zdcg 20 zdT_dX5_markRegular_41 rfl
theorem dX5_markRegular_76 : decode cX5_markRegular 76 = .ok (.getfield 15, 3) := zdcg 21 zdT_dX5_markRegular_41 rfl
theorem dX5_markRegular_79 : decode cX5_markRegular 79 = .ok (.if_icmp .ge 7, 3) := zdcg 22 zdT_dX5_markRegular_41 rfl
theorem dX5_markRegular_82 : decode cX5_markRegular 82 = .ok (.iconst 1, 1) := zdcg 23 zdT_dX5_markRegular_41 rfl
theorem dX5_markRegular_83 : decode cX5_markRegular 83 = .ok (.goto 4, 3) := zdcg 24 zdT_dX5_markRegular_41 rfl
theorem zdT_dX5_markRegular_86 : zdch cX5_markRegular [(86, (.iconst 0, 1)), (87, (.iand, 1)), (88, (.istore_n 3, 1)), (89, (.iload 4, 2)), (91, (.aload_n 2, 1)), (92, (.iload 6, 2)), (94, (.iaload, 1)), (95, (.aload_n 0, 1)), (96, (.getfield 15, 3)), (99, (.irem, 1)), (100, (.ifCond .eq 7, 3)), (103, (.iconst 1, 1)), (104, (.goto 4, 3)), (107, (.iconst 0, 1)), (108, (.iand, 1)), (109, (.istore 4, 2)), (111, (.iinc 6 1, 3)), (114, (.goto (-77), 3)), (117, (.aload_n 0, 1)), (118, (.getfield 28, 3)), (121, (.iload_n 1, 1)), (122, (.iload 4, 2)), (124, (.bastore, 1)), (125, (.aload_n 0, 1)), (126, (.getfield 24, 3))] = true := by decide +kernel
theorem dX5_markRegular_86 : decode cX5_markRegular 86 = .ok (.iconst 0, 1) := zdcg 0 zdT_dX5_markRegular_86 rfl
theorem dX5_markRegular_87 : decode cX5_markRegular 87 = .ok (.iand, 1) := zdcg 1 zdT_dX5_markRegular_86 rfl
theorem dX5_markRegular_88 : decode cX5_markRegular 88 = .ok (.istore_n 3, 1) := zdcg 2 zdT_dX5_markRegular_86 rfl
theorem dX5_markRegular_89 : decode cX5_markRegular 89 = .ok (.iload 4, 2) := zdcg 3 zdT_dX5_markRegular_86 rfl
theorem dX5_markRegular_91 : decode cX5_markRegular 91 = .ok (.aload_n 2, 1) := zdcg 4 zdT_dX5_markRegular_86 rfl
theorem dX5_markRegular_92 : decode cX5_markRegular 92 = .ok (.iload 6, 2) := zdcg 5 zdT_dX5_markRegular_86 rfl
theorem dX5_markRegular_94 : decode cX5_markRegular 94 = .ok (.iaload, 1) := zdcg 6 zdT_dX5_markRegular_86 rfl
theorem dX5_markRegular_95 : decode cX5_markRegular 95 = .ok (.aload_n 0, 1) := zdcg 7 zdT_dX5_markRegular_86 rfl
theorem dX5_markRegular_96 : decode cX5_markRegular 96 = .ok (.getfield 15, 3) := zdcg 8 zdT_dX5_markRegular_86 rfl
theorem dX5_markRegular_99 : decode cX5_markRegular 99 = .ok (.irem, 1) := zdcg 9 zdT_dX5_markRegular_86 rfl
theorem dX5_markRegular_100 : decode cX5_markRegular 100 = .ok (.ifCond .eq 7, 3) := zdcg 10 zdT_dX5_markRegular_86 rfl
theorem dX5_markRegular_103 : decode cX5_markRegular 103 = .ok (.iconst 1, 1) := zdcg 11 zdT_dX5_markRegular_86 rfl
theorem dX5_markRegular_104 : decode cX5_markRegular 104 = .ok (.goto 4, 3) := zdcg 12 zdT_dX5_markRegular_86 rfl
theorem dX5_markRegular_107 : decode cX5_markRegular 107 = .ok (.iconst 0, 1) := zdcg 13 zdT_dX5_markRegular_86 rfl
theorem dX5_markRegular_108 : decode cX5_markRegular 108 = .ok (.iand, 1) := zdcg 14 zdT_dX5_markRegular_86 rfl
theorem dX5_markRegular_109 : decode cX5_markRegular 109 = .ok (.istore 4, 2) := zdcg 15 zdT_dX5_markRegular_86 rfl
theorem dX5_markRegular_111 : decode cX5_markRegular 111 = .ok (.iinc 6 1, 3) := zdcg 16 zdT_dX5_markRegular_86 rfl
theorem dX5_markRegular_114 : decode cX5_markRegular 114 = .ok (.goto (-77), 3) := zdcg 17 zdT_dX5_markRegular_86 rfl
theorem dX5_markRegular_117 : decode cX5_markRegular 117 = .ok (.aload_n 0, 1) := zdcg 18 zdT_dX5_markRegular_86 rfl
theorem dX5_markRegular_118 : decode cX5_markRegular 118 = .ok (.getfield 28, 3) := zdcg 19 zdT_dX5_markRegular_86 rfl
theorem dX5_markRegular_121 : decode cX5_markRegular 121 = .ok (.iload_n 1, 1) := zdcg 20 zdT_dX5_markRegular_86 rfl
theorem dX5_markRegular_122 : decode cX5_markRegular 122 = .ok (.iload 4, 2) := zdcg 21 zdT_dX5_markRegular_86 rfl
theorem dX5_markRegular_124 : decode cX5_markRegular 124 = .ok (.bastore, 1) := zdcg 22 zdT_dX5_markRegular_86 rfl
theorem dX5_markRegular_125 : decode cX5_markRegular 125 = .ok (.aload_n 0, 1) := zdcg 23 zdT_dX5_markRegular_86 rfl
theorem dX5_markRegular_126 : decode cX5_markRegular 126 = .ok (.getfield 24, 3) := zdcg 24 zdT_dX5_markRegular_86 rfl
theorem zdT_dX5_markRegular_129 : zdch cX5_markRegular [(129, (.iload_n 1, 1)), (130, (.iload_n 3, 1)), (131, (.ifCond .eq 10, 3)), (134, (.aload_n 0, 1)), (135, (.getfield 89, 3)), (138, (.goto 4, 3)), (141, (.iconst (-1), 1)), (142, (.iastore, 1)), (143, (.aload_n 0, 1)), (144, (.dup, 1)), (145, (.getfield 89, 3)), (148, (.iload_n 3, 1)), (149, (.invokestatic 92, 3)), (152, (.iadd, 1)), (153, (.putfield 89, 3)), (156, (.iinc 1 1, 3)), (159, (.goto (-157), 3)), (162, (.return_, 1))] = true := by decide +kernel
theorem dX5_markRegular_129 : decode cX5_markRegular 129 = .ok (.iload_n 1, 1) := zdcg 0 zdT_dX5_markRegular_129 rfl
theorem dX5_markRegular_130 : decode cX5_markRegular 130 = .ok (.iload_n 3, 1) := zdcg 1 zdT_dX5_markRegular_129 rfl
theorem dX5_markRegular_131 : decode cX5_markRegular 131 = .ok (.ifCond .eq 10, 3) := zdcg 2 zdT_dX5_markRegular_129 rfl
theorem dX5_markRegular_134 : decode cX5_markRegular 134 = .ok (.aload_n 0, 1) := zdcg 3 zdT_dX5_markRegular_129 rfl
theorem dX5_markRegular_135 : decode cX5_markRegular 135 = .ok (.getfield 89, 3) := zdcg 4 zdT_dX5_markRegular_129 rfl
theorem dX5_markRegular_138 : decode cX5_markRegular 138 = .ok (.goto 4, 3) := zdcg 5 zdT_dX5_markRegular_129 rfl
theorem dX5_markRegular_141 : decode cX5_markRegular 141 = .ok (.iconst (-1), 1) := zdcg 6 zdT_dX5_markRegular_129 rfl
theorem dX5_markRegular_142 : decode cX5_markRegular 142 = .ok (.iastore, 1) := zdcg 7 zdT_dX5_markRegular_129 rfl
theorem dX5_markRegular_143 : decode cX5_markRegular 143 = .ok (.aload_n 0, 1) := zdcg 8 zdT_dX5_markRegular_129 rfl
theorem dX5_markRegular_144 : decode cX5_markRegular 144 = .ok (.dup, 1) := zdcg 9 zdT_dX5_markRegular_129 rfl
theorem dX5_markRegular_145 : decode cX5_markRegular 145 = .ok (.getfield 89, 3) := zdcg 10 zdT_dX5_markRegular_129 rfl
theorem dX5_markRegular_148 : decode cX5_markRegular 148 = .ok (.iload_n 3, 1) := zdcg 11 zdT_dX5_markRegular_129 rfl
theorem dX5_markRegular_149 : decode cX5_markRegular 149 = .ok (.invokestatic 92, 3) := zdcg 12 zdT_dX5_markRegular_129 rfl
theorem dX5_markRegular_152 : decode cX5_markRegular 152 = .ok (.iadd, 1) := zdcg 13 zdT_dX5_markRegular_129 rfl
theorem dX5_markRegular_153 : decode cX5_markRegular 153 = .ok (.putfield 89, 3) := zdcg 14 zdT_dX5_markRegular_129 rfl
theorem dX5_markRegular_156 : decode cX5_markRegular 156 = .ok (.iinc 1 1, 3) := zdcg 15 zdT_dX5_markRegular_129 rfl
theorem dX5_markRegular_159 : decode cX5_markRegular 159 = .ok (.goto (-157), 3) := zdcg 16 zdT_dX5_markRegular_129 rfl
theorem dX5_markRegular_162 : decode cX5_markRegular 162 = .ok (.return_, 1) := zdcg 17 zdT_dX5_markRegular_129 rfl
theorem zdT_dX5_makeModulars_0 : zdch cX5_makeModulars [(0, (.iconst 1, 1)), (1, (.istore_n 1, 1)), (2, (.iconst 0, 1)), (3, (.istore_n 2, 1)), (4, (.iload_n 2, 1)), (5, (.aload_n 0, 1)), (6, (.getfield 9, 3)), (9, (.getfield 19, 3)), (12, (.if_icmp .ge 26, 3)), (15, (.iload_n 1, 1)), (16, (.aload_n 0, 1)), (17, (.getfield 9, 3)), (20, (.getfield 80, 3)), (23, (.iload_n 2, 1)), (24, (.aaload, 1)), (25, (.getfield 96, 3)), (28, (.invokestatic 99, 3)), (31, (.istore_n 1, 1)), (32, (.iinc 2 1, 3)), (35, (.goto (-31), 3)), (38, (.new 105, 3)), (41, (.dup, 1)), (42, (.aload_n 0, 1)), (43, (.getfield 15, 3)), (46, (.iload_n 1, 1))] = true := by decide +kernel
theorem dX5_makeModulars_0 : decode cX5_makeModulars 0 = .ok (.iconst 1, 1) := zdcg 0 zdT_dX5_makeModulars_0 rfl
theorem dX5_makeModulars_1 : decode cX5_makeModulars 1 = .ok (.istore_n 1, 1) := zdcg 1 zdT_dX5_makeModulars_0 rfl
theorem dX5_makeModulars_2 : decode cX5_makeModulars 2 = .ok (.iconst 0, 1) := zdcg 2 zdT_dX5_makeModulars_0 rfl
theorem dX5_makeModulars_3 : decode cX5_makeModulars 3 = .ok (.istore_n 2, 1) := zdcg 3 zdT_dX5_makeModulars_0 rfl
theorem dX5_makeModulars_4 : decode cX5_makeModulars 4 = .ok (.iload_n 2, 1) := zdcg 4 zdT_dX5_makeModulars_0 rfl
theorem dX5_makeModulars_5 : decode cX5_makeModulars 5 = .ok (.aload_n 0, 1) := zdcg 5 zdT_dX5_makeModulars_0 rfl
theorem dX5_makeModulars_6 : decode cX5_makeModulars 6 = .ok (.getfield 9, 3) := zdcg 6 zdT_dX5_makeModulars_0 rfl
theorem dX5_makeModulars_9 : decode cX5_makeModulars 9 = .ok (.getfield 19, 3) := zdcg 7 zdT_dX5_makeModulars_0 rfl
theorem dX5_makeModulars_12 : decode cX5_makeModulars 12 = .ok (.if_icmp .ge 26, 3) := zdcg 8 zdT_dX5_makeModulars_0 rfl
theorem dX5_makeModulars_15 : decode cX5_makeModulars 15 = .ok (.iload_n 1, 1) := zdcg 9 zdT_dX5_makeModulars_0 rfl
theorem dX5_makeModulars_16 : decode cX5_makeModulars 16 = .ok (.aload_n 0, 1) := zdcg 10 zdT_dX5_makeModulars_0 rfl
theorem dX5_makeModulars_17 : decode cX5_makeModulars 17 = .ok (.getfield 9, 3) := zdcg 11 zdT_dX5_makeModulars_0 rfl
theorem dX5_makeModulars_20 : decode cX5_makeModulars 20 = .ok (.getfield 80, 3) := zdcg 12 zdT_dX5_makeModulars_0 rfl
theorem dX5_makeModulars_23 : decode cX5_makeModulars 23 = .ok (.iload_n 2, 1) := zdcg 13 zdT_dX5_makeModulars_0 rfl
theorem dX5_makeModulars_24 : decode cX5_makeModulars 24 = .ok (.aaload, 1) := zdcg 14 zdT_dX5_makeModulars_0 rfl
theorem dX5_makeModulars_25 : decode cX5_makeModulars 25 = .ok (.getfield 96, 3) := zdcg 15 zdT_dX5_makeModulars_0 rfl
theorem dX5_makeModulars_28 : decode cX5_makeModulars 28 = .ok (.invokestatic 99, 3) := zdcg 16 zdT_dX5_makeModulars_0 rfl
theorem dX5_makeModulars_31 : decode cX5_makeModulars 31 = .ok (.istore_n 1, 1) := zdcg 17 zdT_dX5_makeModulars_0 rfl
theorem dX5_makeModulars_32 : decode cX5_makeModulars 32 = .ok (.iinc 2 1, 3) := zdcg 18 zdT_dX5_makeModulars_0 rfl
theorem dX5_makeModulars_35 : decode cX5_makeModulars 35 = .ok (.goto (-31), 3) := zdcg 19 zdT_dX5_makeModulars_0 rfl
theorem dX5_makeModulars_38 : decode cX5_makeModulars 38 = .ok (.new 105, 3) := zdcg 20 zdT_dX5_makeModulars_0 rfl
theorem dX5_makeModulars_41 : decode cX5_makeModulars 41 = .ok (.dup, 1) := zdcg 21 zdT_dX5_makeModulars_0 rfl
theorem dX5_makeModulars_42 : decode cX5_makeModulars 42 = .ok (.aload_n 0, 1) := zdcg 22 zdT_dX5_makeModulars_0 rfl
theorem dX5_makeModulars_43 : decode cX5_makeModulars 43 = .ok (.getfield 15, 3) := zdcg 23 zdT_dX5_makeModulars_0 rfl
theorem dX5_makeModulars_46 : decode cX5_makeModulars 46 = .ok (.iload_n 1, 1) := zdcg 24 zdT_dX5_makeModulars_0 rfl
theorem zdT_dX5_makeModulars_47 : zdch cX5_makeModulars [(47, (.iload_n 1, 1)), (48, (.invokespecial 107, 3)), (51, (.astore_n 2, 1)), (52, (.iload_n 1, 1)), (53, (.iload_n 1, 1)), (54, (.multianewarray 38 2, 4)), (58, (.astore_n 3, 1)), (59, (.aload_n 0, 1)), (60, (.getfield 9, 3)), (63, (.getfield 19, 3)), (66, (.newarray .int, 2)), (68, (.astore 4, 2)), (70, (.iconst 0, 1)), (71, (.istore 5, 2)), (73, (.iload 5, 2)), (75, (.aload_n 0, 1)), (76, (.getfield 9, 3)), (79, (.getfield 19, 3)), (82, (.if_icmp .ge 157, 3)), (85, (.aload_n 0, 1)), (86, (.getfield 9, 3)), (89, (.getfield 80, 3)), (92, (.iload 5, 2)), (94, (.aaload, 1)), (95, (.astore 6, 2))] = true := by decide +kernel
theorem dX5_makeModulars_47 : decode cX5_makeModulars 47 = .ok (.iload_n 1, 1) := zdcg 0 zdT_dX5_makeModulars_47 rfl
theorem dX5_makeModulars_48 : decode cX5_makeModulars 48 = .ok (.invokespecial 107, 3) := zdcg 1 zdT_dX5_makeModulars_47 rfl
theorem dX5_makeModulars_51 : decode cX5_makeModulars 51 = .ok (.astore_n 2, 1) := zdcg 2 zdT_dX5_makeModulars_47 rfl
theorem dX5_makeModulars_52 : decode cX5_makeModulars 52 = .ok (.iload_n 1, 1) := zdcg 3 zdT_dX5_makeModulars_47 rfl
theorem dX5_makeModulars_53 : decode cX5_makeModulars 53 = .ok (.iload_n 1, 1) := zdcg 4 zdT_dX5_makeModulars_47 rfl
theorem dX5_makeModulars_54 : decode cX5_makeModulars 54 = .ok (.multianewarray 38 2, 4) := zdcg 5 zdT_dX5_makeModulars_47 rfl
theorem dX5_makeModulars_58 : decode cX5_makeModulars 58 = .ok (.astore_n 3, 1) := zdcg 6 zdT_dX5_makeModulars_47 rfl
theorem dX5_makeModulars_59 : decode cX5_makeModulars 59 = .ok (.aload_n 0, 1) := zdcg 7 zdT_dX5_makeModulars_47 rfl
theorem dX5_makeModulars_60 : decode cX5_makeModulars 60 = .ok (.getfield 9, 3) := zdcg 8 zdT_dX5_makeModulars_47 rfl
theorem dX5_makeModulars_63 : decode cX5_makeModulars 63 = .ok (.getfield 19, 3) := zdcg 9 zdT_dX5_makeModulars_47 rfl
theorem dX5_makeModulars_66 : decode cX5_makeModulars 66 = .ok (.newarray .int, 2) := zdcg 10 zdT_dX5_makeModulars_47 rfl
theorem dX5_makeModulars_68 : decode cX5_makeModulars 68 = .ok (.astore 4, 2) := zdcg 11 zdT_dX5_makeModulars_47 rfl
theorem dX5_makeModulars_70 : decode cX5_makeModulars 70 = .ok (.iconst 0, 1) := zdcg 12 zdT_dX5_makeModulars_47 rfl
theorem dX5_makeModulars_71 : decode cX5_makeModulars 71 = .ok (.istore 5, 2) := zdcg 13 zdT_dX5_makeModulars_47 rfl
theorem dX5_makeModulars_73 : decode cX5_makeModulars 73 = .ok (.iload 5, 2) := zdcg 14 zdT_dX5_makeModulars_47 rfl
theorem dX5_makeModulars_75 : decode cX5_makeModulars 75 = .ok (.aload_n 0, 1) := zdcg 15 zdT_dX5_makeModulars_47 rfl
theorem dX5_makeModulars_76 : decode cX5_makeModulars 76 = .ok (.getfield 9, 3) := zdcg 16 zdT_dX5_makeModulars_47 rfl
theorem dX5_makeModulars_79 : decode cX5_makeModulars 79 = .ok (.getfield 19, 3) := zdcg 17 zdT_dX5_makeModulars_47 rfl
theorem dX5_makeModulars_82 : decode cX5_makeModulars 82 = .ok (.if_icmp .ge 157, 3) := zdcg 18 zdT_dX5_makeModulars_47 rfl
theorem dX5_makeModulars_85 : decode cX5_makeModulars 85 = .ok (.aload_n 0, 1) := zdcg 19 zdT_dX5_makeModulars_47 rfl
theorem dX5_makeModulars_86 : decode cX5_makeModulars 86 = .ok (.getfield 9, 3) := zdcg 20 zdT_dX5_makeModulars_47 rfl
theorem dX5_makeModulars_89 : decode cX5_makeModulars 89 = .ok (.getfield 80, 3) := zdcg 21 zdT_dX5_makeModulars_47 rfl
theorem dX5_makeModulars_92 : decode cX5_makeModulars 92 = .ok (.iload 5, 2) := zdcg 22 zdT_dX5_makeModulars_47 rfl
theorem dX5_makeModulars_94 : decode cX5_makeModulars 94 = .ok (.aaload, 1) := zdcg 23 zdT_dX5_makeModulars_47 rfl
theorem dX5_makeModulars_95 : decode cX5_makeModulars 95 = .ok (.astore 6, 2) := zdcg 24 zdT_dX5_makeModulars_47 rfl
theorem zdT_dX5_makeModulars_97 : zdch cX5_makeModulars [(97, (.aload_n 0, 1)), (98, (.getfield 35, 3)), (101, (.iload 5, 2)), (103, (.aload 6, 2)), (105, (.aload 6, 2)), (107, (.getfield 110, 3)), (110, (.aconst_null, 1)), (111, (.aload_n 2, 1)), (112, (.invokestatic 113, 3)), (115, (.iastore, 1)), (116, (.aload_n 0, 1)), (117, (.iload 5, 2)), (119, (.invokevirtual 117, 3)), (122, (.ifCond .ne 6, 3)), (125, (.goto 108, 3)), (128, (.aload_n 0, 1)), (129, (.getfield 35, 3)), (132, (.iload 5, 2)), (134, (.iaload, 1)), (135, (.aload 6, 2)), (137, (.getfield 96, 3)), (140, (.if_icmp .ge 13, 3)), (143, (.aload_n 0, 1)), (144, (.iload 5, 2)), (146, (.aload_n 3, 1))] = true := by decide +kernel
theorem dX5_makeModulars_97 : decode cX5_makeModulars 97 = .ok (.aload_n 0, 1) := zdcg 0 zdT_dX5_makeModulars_97 rfl
theorem dX5_makeModulars_98 : decode cX5_makeModulars 98 = .ok (.getfield 35, 3) := zdcg 1 zdT_dX5_makeModulars_97 rfl
theorem dX5_makeModulars_101 : decode cX5_makeModulars 101 = .ok (.iload 5, 2) := zdcg 2 zdT_dX5_makeModulars_97 rfl
theorem dX5_makeModulars_103 : decode cX5_makeModulars 103 = .ok (.aload 6, 2) := zdcg 3 zdT_dX5_makeModulars_97 rfl
theorem dX5_makeModulars_105 : decode cX5_makeModulars 105 = .ok (.aload 6, 2) := zdcg 4 zdT_dX5_makeModulars_97 rfl
theorem dX5_makeModulars_107 : decode cX5_makeModulars 107 = .ok (.getfield 110, 3) := zdcg 5 zdT_dX5_makeModulars_97 rfl
theorem dX5_makeModulars_110 : decode cX5_makeModulars 110 = .ok (.aconst_null, 1) := zdcg 6 zdT_dX5_makeModulars_97 rfl
theorem dX5_makeModulars_111 : decode cX5_makeModulars 111 = .ok (.aload_n 2, 1) := zdcg 7 zdT_dX5_makeModulars_97 rfl
theorem dX5_makeModulars_112 : decode cX5_makeModulars 112 = .ok (.invokestatic 113, 3) := zdcg 8 zdT_dX5_makeModulars_97 rfl
theorem dX5_makeModulars_115 : decode cX5_makeModulars 115 = .ok (.iastore, 1) := zdcg 9 zdT_dX5_makeModulars_97 rfl
theorem dX5_makeModulars_116 : decode cX5_makeModulars 116 = .ok (.aload_n 0, 1) := zdcg 10 zdT_dX5_makeModulars_97 rfl
theorem dX5_makeModulars_117 : decode cX5_makeModulars 117 = .ok (.iload 5, 2) := zdcg 11 zdT_dX5_makeModulars_97 rfl
theorem dX5_makeModulars_119 : decode cX5_makeModulars 119 = .ok (.invokevirtual 117, 3) := zdcg 12 zdT_dX5_makeModulars_97 rfl
theorem dX5_makeModulars_122 : decode cX5_makeModulars 122 = .ok (.ifCond .ne 6, 3) := zdcg 13 zdT_dX5_makeModulars_97 rfl
theorem dX5_makeModulars_125 : decode cX5_makeModulars 125 = .ok (.goto 108, 3) := zdcg 14 zdT_dX5_makeModulars_97 rfl
theorem dX5_makeModulars_128 : decode cX5_makeModulars 128 = .ok (.aload_n 0, 1) := zdcg 15 zdT_dX5_makeModulars_97 rfl
theorem dX5_makeModulars_129 : decode cX5_makeModulars 129 = .ok (.getfield 35, 3) := zdcg 16 zdT_dX5_makeModulars_97 rfl
theorem dX5_makeModulars_132 : decode cX5_makeModulars 132 = .ok (.iload 5, 2) := zdcg 17 zdT_dX5_makeModulars_97 rfl
theorem dX5_makeModulars_134 : decode cX5_makeModulars 134 = .ok (.iaload, 1) := zdcg 18 zdT_dX5_makeModulars_97 rfl
theorem dX5_makeModulars_135 : decode cX5_makeModulars 135 = .ok (.aload 6, 2) := zdcg 19 zdT_dX5_makeModulars_97 rfl
theorem dX5_makeModulars_137 : decode cX5_makeModulars 137 = .ok (.getfield 96, 3) := zdcg 20 zdT_dX5_makeModulars_97 rfl
theorem dX5_makeModulars_140 : decode cX5_makeModulars 140 = .ok (.if_icmp .ge 13, 3) := zdcg 21 zdT_dX5_makeModulars_97 rfl
theorem dX5_makeModulars_143 : decode cX5_makeModulars 143 = .ok (.aload_n 0, 1) := zdcg 22 zdT_dX5_makeModulars_97 rfl
theorem dX5_makeModulars_144 : decode cX5_makeModulars 144 = .ok (.iload 5, 2) := zdcg 23 zdT_dX5_makeModulars_97 rfl
theorem dX5_makeModulars_146 : decode cX5_makeModulars 146 = .ok (.aload_n 3, 1) := zdcg 24 zdT_dX5_makeModulars_97 rfl
theorem zdT_dX5_makeModulars_147 : zdch cX5_makeModulars [(147, (.aload_n 2, 1)), (148, (.aload 4, 2)), (150, (.invokevirtual 121, 3)), (153, (.iconst 0, 1)), (154, (.istore 7, 2)), (156, (.iload 7, 2)), (158, (.aload_n 0, 1)), (159, (.getfield 9, 3)), (162, (.getfield 19, 3)), (165, (.if_icmp .ge 68, 3)), (168, (.aload_n 0, 1)), (169, (.getfield 28, 3)), (172, (.iload 7, 2)), (174, (.baload, 1)), (175, (.ifCond .eq 52, 3)), (178, (.aload_n 0, 1)), (179, (.getfield 40, 3)), (182, (.iload 5, 2)), (184, (.aaload, 1)), (185, (.iload 7, 2)), (187, (.aload_n 0, 1)), (188, (.getfield 35, 3)), (191, (.iload 5, 2)), (193, (.iaload, 1)), (194, (.aload 6, 2))] = true := by decide +kernel
theorem dX5_makeModulars_147 : decode cX5_makeModulars 147 = .ok (.aload_n 2, 1) := zdcg 0 zdT_dX5_makeModulars_147 rfl
theorem dX5_makeModulars_148 : decode cX5_makeModulars 148 = .ok (.aload 4, 2) := zdcg 1 zdT_dX5_makeModulars_147 rfl
theorem dX5_makeModulars_150 : decode cX5_makeModulars 150 = .ok (.invokevirtual 121, 3) := zdcg 2 zdT_dX5_makeModulars_147 rfl
theorem dX5_makeModulars_153 : decode cX5_makeModulars 153 = .ok (.iconst 0, 1) := zdcg 3 zdT_dX5_makeModulars_147 rfl
theorem dX5_makeModulars_154 : decode cX5_makeModulars 154 = .ok (.istore 7, 2) := zdcg 4 zdT_dX5_makeModulars_147 rfl
theorem dX5_makeModulars_156 : decode cX5_makeModulars 156 = .ok (.iload 7, 2) := zdcg 5 zdT_dX5_makeModulars_147 rfl
theorem dX5_makeModulars_158 : decode cX5_makeModulars 158 = .ok (.aload_n 0, 1) := zdcg 6 zdT_dX5_makeModulars_147 rfl
theorem dX5_makeModulars_159 : decode cX5_makeModulars 159 = .ok (.getfield 9, 3) := zdcg 7 zdT_dX5_makeModulars_147 rfl
theorem dX5_makeModulars_162 : decode cX5_makeModulars 162 = .ok (.getfield 19, 3) := zdcg 8 zdT_dX5_makeModulars_147 rfl
theorem dX5_makeModulars_165 : decode cX5_makeModulars 165 = .ok (.if_icmp .ge 68, 3) := zdcg 9 zdT_dX5_makeModulars_147 rfl
theorem dX5_makeModulars_168 : decode cX5_makeModulars 168 = .ok (.aload_n 0, 1) := zdcg 10 zdT_dX5_makeModulars_147 rfl
theorem dX5_makeModulars_169 : decode cX5_makeModulars 169 = .ok (.getfield 28, 3) := zdcg 11 zdT_dX5_makeModulars_147 rfl
theorem dX5_makeModulars_172 : decode cX5_makeModulars 172 = .ok (.iload 7, 2) := zdcg 12 zdT_dX5_makeModulars_147 rfl
theorem dX5_makeModulars_174 : decode cX5_makeModulars 174 = .ok (.baload, 1) := zdcg 13 zdT_dX5_makeModulars_147 rfl
theorem dX5_makeModulars_175 : decode cX5_makeModulars 175 = .ok (.ifCond .eq 52, 3) := zdcg 14 zdT_dX5_makeModulars_147 rfl
theorem dX5_makeModulars_178 : decode cX5_makeModulars 178 = .ok (.aload_n 0, 1) := zdcg 15 zdT_dX5_makeModulars_147 rfl
theorem dX5_makeModulars_179 : decode cX5_makeModulars 179 = .ok (.getfield 40, 3) := zdcg 16 zdT_dX5_makeModulars_147 rfl
theorem dX5_makeModulars_182 : decode cX5_makeModulars 182 = .ok (.iload 5, 2) := zdcg 17 zdT_dX5_makeModulars_147 rfl
theorem dX5_makeModulars_184 : decode cX5_makeModulars 184 = .ok (.aaload, 1) := zdcg 18 zdT_dX5_makeModulars_147 rfl
theorem dX5_makeModulars_185 : decode cX5_makeModulars 185 = .ok (.iload 7, 2) := zdcg 19 zdT_dX5_makeModulars_147 rfl
theorem dX5_makeModulars_187 : decode cX5_makeModulars 187 = .ok (.aload_n 0, 1) := zdcg 20 zdT_dX5_makeModulars_147 rfl
theorem dX5_makeModulars_188 : decode cX5_makeModulars 188 = .ok (.getfield 35, 3) := zdcg 21 zdT_dX5_makeModulars_147 rfl
theorem dX5_makeModulars_191 : decode cX5_makeModulars 191 = .ok (.iload 5, 2) := zdcg 22 zdT_dX5_makeModulars_147 rfl
theorem dX5_makeModulars_193 : decode cX5_makeModulars 193 = .ok (.iaload, 1) := zdcg 23 zdT_dX5_makeModulars_147 rfl
theorem dX5_makeModulars_194 : decode cX5_makeModulars 194 = .ok (.aload 6, 2) := zdcg 24 zdT_dX5_makeModulars_147 rfl
theorem zdT_dX5_makeModulars_196 : zdch cX5_makeModulars [(196, (.getfield 96, 3)), (199, (.if_icmp .ge 14, 3)), (202, (.aload_n 0, 1)), (203, (.iload 7, 2)), (205, (.aload 4, 2)), (207, (.invokevirtual 125, 3)), (210, (.goto 16, 3)), (213, (.aload_n 0, 1)), (214, (.getfield 9, 3)), (217, (.getfield 129, 3)), (220, (.iload 5, 2)), (222, (.aaload, 1)), (223, (.iload 7, 2)), (225, (.iaload, 1)), (226, (.iastore, 1)), (227, (.iinc 7 1, 3)), (230, (.goto (-74), 3)), (233, (.iinc 5 1, 3)), (236, (.goto (-163), 3)), (239, (.return_, 1))] = true := by decide +kernel
theorem dX5_makeModulars_196 : decode cX5_makeModulars 196 = .ok (.getfield 96, 3) := zdcg 0 zdT_dX5_makeModulars_196 rfl
theorem dX5_makeModulars_199 : decode cX5_makeModulars 199 = .ok (.if_icmp .ge 14, 3) := zdcg 1 zdT_dX5_makeModulars_196 rfl
theorem dX5_makeModulars_202 : decode cX5_makeModulars 202 = .ok (.aload_n 0, 1) := zdcg 2 zdT_dX5_makeModulars_196 rfl
theorem dX5_makeModulars_203 : decode cX5_makeModulars 203 = .ok (.iload 7, 2) := zdcg 3 zdT_dX5_makeModulars_196 rfl
theorem dX5_makeModulars_205 : decode cX5_makeModulars 205 = .ok (.aload 4, 2) := zdcg 4 zdT_dX5_makeModulars_196 rfl
theorem dX5_makeModulars_207 : decode cX5_makeModulars 207 = .ok (.invokevirtual 125, 3) := zdcg 5 zdT_dX5_makeModulars_196 rfl
theorem dX5_makeModulars_210 : decode cX5_makeModulars 210 = .ok (.goto 16, 3) := zdcg 6 zdT_dX5_makeModulars_196 rfl
theorem dX5_makeModulars_213 : decode cX5_makeModulars 213 = .ok (.aload_n 0, 1) := zdcg 7 zdT_dX5_makeModulars_196 rfl
theorem dX5_makeModulars_214 : decode cX5_makeModulars 214 = .ok (.getfield 9, 3) := zdcg 8 zdT_dX5_makeModulars_196 rfl
theorem dX5_makeModulars_217 : decode cX5_makeModulars 217 = .ok (.getfield 129, 3) := zdcg 9 zdT_dX5_makeModulars_196 rfl
theorem dX5_makeModulars_220 : decode cX5_makeModulars 220 = .ok (.iload 5, 2) := zdcg 10 zdT_dX5_makeModulars_196 rfl
theorem dX5_makeModulars_222 : decode cX5_makeModulars 222 = .ok (.aaload, 1) := zdcg 11 zdT_dX5_makeModulars_196 rfl
theorem dX5_makeModulars_223 : decode cX5_makeModulars 223 = .ok (.iload 7, 2) := zdcg 12 zdT_dX5_makeModulars_196 rfl
theorem dX5_makeModulars_225 : decode cX5_makeModulars 225 = .ok (.iaload, 1) := zdcg 13 zdT_dX5_makeModulars_196 rfl
theorem dX5_makeModulars_226 : decode cX5_makeModulars 226 = .ok (.iastore, 1) := zdcg 14 zdT_dX5_makeModulars_196 rfl
theorem dX5_makeModulars_227 : decode cX5_makeModulars 227 = .ok (.iinc 7 1, 3) := zdcg 15 zdT_dX5_makeModulars_196 rfl
theorem dX5_makeModulars_230 : decode cX5_makeModulars 230 = .ok (.goto (-74), 3) := zdcg 16 zdT_dX5_makeModulars_196 rfl
theorem dX5_makeModulars_233 : decode cX5_makeModulars 233 = .ok (.iinc 5 1, 3) := zdcg 17 zdT_dX5_makeModulars_196 rfl
theorem dX5_makeModulars_236 : decode cX5_makeModulars 236 = .ok (.goto (-163), 3) := zdcg 18 zdT_dX5_makeModulars_196 rfl
theorem dX5_makeModulars_239 : decode cX5_makeModulars 239 = .ok (.return_, 1) := zdcg 19 zdT_dX5_makeModulars_196 rfl
theorem zdT_dX5_rankOfDifference_0 : zdch cX5_rankOfDifference [(0, (.iconst 0, 1)), (1, (.istore 4, 2)), (3, (.iload 4, 2)), (5, (.aload_n 0, 1)), (6, (.getfield 96, 3)), (9, (.if_icmp .ge 64, 3)), (12, (.iconst 0, 1)), (13, (.istore 5, 2)), (15, (.iload 5, 2)), (17, (.aload_n 0, 1)), (18, (.getfield 96, 3)), (21, (.if_icmp .ge 46, 3)), (24, (.aload_n 3, 1)), (25, (.iload 4, 2)), (27, (.iload 5, 2)), (29, (.aload_n 2, 1)), (30, (.ifnonnull 13, 3)), (33, (.aload_n 1, 1)), (34, (.iload 4, 2)), (36, (.aaload, 1)), (37, (.iload 5, 2)), (39, (.iaload, 1)), (40, (.goto 18, 3)), (43, (.aload_n 1, 1)), (44, (.iload 4, 2))] = true := by decide +kernel
theorem dX5_rankOfDifference_0 : decode cX5_rankOfDifference 0 = .ok (.iconst 0, 1) := zdcg 0 zdT_dX5_rankOfDifference_0 rfl
theorem dX5_rankOfDifference_1 : decode cX5_rankOfDifference 1 = .ok (.istore 4, 2) := zdcg 1 zdT_dX5_rankOfDifference_0 rfl
theorem dX5_rankOfDifference_3 : decode cX5_rankOfDifference 3 = .ok (.iload 4, 2) := zdcg 2 zdT_dX5_rankOfDifference_0 rfl
theorem dX5_rankOfDifference_5 : decode cX5_rankOfDifference 5 = .ok (.aload_n 0, 1) := zdcg 3 zdT_dX5_rankOfDifference_0 rfl
theorem dX5_rankOfDifference_6 : decode cX5_rankOfDifference 6 = .ok (.getfield 96, 3) := zdcg 4 zdT_dX5_rankOfDifference_0 rfl
theorem dX5_rankOfDifference_9 : decode cX5_rankOfDifference 9 = .ok (.if_icmp .ge 64, 3) := zdcg 5 zdT_dX5_rankOfDifference_0 rfl
theorem dX5_rankOfDifference_12 : decode cX5_rankOfDifference 12 = .ok (.iconst 0, 1) := zdcg 6 zdT_dX5_rankOfDifference_0 rfl
theorem dX5_rankOfDifference_13 : decode cX5_rankOfDifference 13 = .ok (.istore 5, 2) := zdcg 7 zdT_dX5_rankOfDifference_0 rfl
theorem dX5_rankOfDifference_15 : decode cX5_rankOfDifference 15 = .ok (.iload 5, 2) := zdcg 8 zdT_dX5_rankOfDifference_0 rfl
theorem dX5_rankOfDifference_17 : decode cX5_rankOfDifference 17 = .ok (.aload_n 0, 1) := zdcg 9 zdT_dX5_rankOfDifference_0 rfl
theorem dX5_rankOfDifference_18 : decode cX5_rankOfDifference 18 = .ok (.getfield 96, 3) := zdcg 10 zdT_dX5_rankOfDifference_0 rfl
theorem dX5_rankOfDifference_21 : decode cX5_rankOfDifference 21 = .ok (.if_icmp .ge 46, 3) := zdcg 11 zdT_dX5_rankOfDifference_0 rfl
theorem dX5_rankOfDifference_24 : decode cX5_rankOfDifference 24 = .ok (.aload_n 3, 1) := zdcg 12 zdT_dX5_rankOfDifference_0 rfl
theorem dX5_rankOfDifference_25 : decode cX5_rankOfDifference 25 = .ok (.iload 4, 2) := zdcg 13 zdT_dX5_rankOfDifference_0 rfl
theorem dX5_rankOfDifference_27 : decode cX5_rankOfDifference 27 = .ok (.iload 5, 2) := zdcg 14 zdT_dX5_rankOfDifference_0 rfl
theorem dX5_rankOfDifference_29 : decode cX5_rankOfDifference 29 = .ok (.aload_n 2, 1) := zdcg 15 zdT_dX5_rankOfDifference_0 rfl
theorem dX5_rankOfDifference_30 : decode cX5_rankOfDifference 30 = .ok (.ifnonnull 13, 3) := zdcg 16 zdT_dX5_rankOfDifference_0 rfl
theorem dX5_rankOfDifference_33 : decode cX5_rankOfDifference 33 = .ok (.aload_n 1, 1) := zdcg 17 zdT_dX5_rankOfDifference_0 rfl
theorem dX5_rankOfDifference_34 : decode cX5_rankOfDifference 34 = .ok (.iload 4, 2) := zdcg 18 zdT_dX5_rankOfDifference_0 rfl
theorem dX5_rankOfDifference_36 : decode cX5_rankOfDifference 36 = .ok (.aaload, 1) := zdcg 19 zdT_dX5_rankOfDifference_0 rfl
theorem dX5_rankOfDifference_37 : decode cX5_rankOfDifference 37 = .ok (.iload 5, 2) := zdcg 20 zdT_dX5_rankOfDifference_0 rfl
theorem dX5_rankOfDifference_39 : decode cX5_rankOfDifference 39 = .ok (.iaload, 1) := zdcg 21 zdT_dX5_rankOfDifference_0 rfl
theorem dX5_rankOfDifference_40 : decode cX5_rankOfDifference 40 = .ok (.goto 18, 3) := zdcg 22 zdT_dX5_rankOfDifference_0 rfl
theorem dX5_rankOfDifference_43 : decode cX5_rankOfDifference 43 = .ok (.aload_n 1, 1) := zdcg 23 zdT_dX5_rankOfDifference_0 rfl
theorem dX5_rankOfDifference_44 : decode cX5_rankOfDifference 44 = .ok (.iload 4, 2) := zdcg 24 zdT_dX5_rankOfDifference_0 rfl
theorem zdT_dX5_rankOfDifference_46 : zdch cX5_rankOfDifference [(46, (.aaload, 1)), (47, (.iload 5, 2)), (49, (.iaload, 1)), (50, (.aload_n 2, 1)), (51, (.iload 4, 2)), (53, (.aaload, 1)), (54, (.iload 5, 2)), (56, (.iaload, 1)), (57, (.isub, 1)), (58, (.invokevirtual 132, 3)), (61, (.iinc 5 1, 3)), (64, (.goto (-49), 3)), (67, (.iinc 4 1, 3)), (70, (.goto (-67), 3)), (73, (.aload_n 3, 1)), (74, (.aload_n 0, 1)), (75, (.getfield 96, 3)), (78, (.aload_n 0, 1)), (79, (.getfield 96, 3)), (82, (.aload_n 0, 1)), (83, (.getfield 96, 3)), (86, (.invokevirtual 135, 3)), (89, (.ireturn, 1))] = true := by decide +kernel
theorem dX5_rankOfDifference_46 : decode cX5_rankOfDifference 46 = .ok (.aaload, 1) := zdcg 0 zdT_dX5_rankOfDifference_46 rfl
theorem dX5_rankOfDifference_47 : decode cX5_rankOfDifference 47 = .ok (.iload 5, 2) := zdcg 1 zdT_dX5_rankOfDifference_46 rfl
theorem dX5_rankOfDifference_49 : decode cX5_rankOfDifference 49 = .ok (.iaload, 1) := zdcg 2 zdT_dX5_rankOfDifference_46 rfl
theorem dX5_rankOfDifference_50 : decode cX5_rankOfDifference 50 = .ok (.aload_n 2, 1) := zdcg 3 zdT_dX5_rankOfDifference_46 rfl
theorem dX5_rankOfDifference_51 : decode cX5_rankOfDifference 51 = .ok (.iload 4, 2) := zdcg 4 zdT_dX5_rankOfDifference_46 rfl
theorem dX5_rankOfDifference_53 : decode cX5_rankOfDifference 53 = .ok (.aaload, 1) := zdcg 5 zdT_dX5_rankOfDifference_46 rfl
theorem dX5_rankOfDifference_54 : decode cX5_rankOfDifference 54 = .ok (.iload 5, 2) := zdcg 6 zdT_dX5_rankOfDifference_46 rfl
theorem dX5_rankOfDifference_56 : decode cX5_rankOfDifference 56 = .ok (.iaload, 1) := zdcg 7 zdT_dX5_rankOfDifference_46 rfl
theorem dX5_rankOfDifference_57 : decode cX5_rankOfDifference 57 = .ok (.isub, 1) := zdcg 8 zdT_dX5_rankOfDifference_46 rfl
theorem dX5_rankOfDifference_58 : decode cX5_rankOfDifference 58 = .ok (.invokevirtual 132, 3) := zdcg 9 zdT_dX5_rankOfDifference_46 rfl
theorem dX5_rankOfDifference_61 : decode cX5_rankOfDifference 61 = .ok (.iinc 5 1, 3) := zdcg 10 zdT_dX5_rankOfDifference_46 rfl
theorem dX5_rankOfDifference_64 : decode cX5_rankOfDifference 64 = .ok (.goto (-49), 3) := zdcg 11 zdT_dX5_rankOfDifference_46 rfl
theorem dX5_rankOfDifference_67 : decode cX5_rankOfDifference 67 = .ok (.iinc 4 1, 3) := zdcg 12 zdT_dX5_rankOfDifference_46 rfl
theorem dX5_rankOfDifference_70 : decode cX5_rankOfDifference 70 = .ok (.goto (-67), 3) := zdcg 13 zdT_dX5_rankOfDifference_46 rfl
theorem dX5_rankOfDifference_73 : decode cX5_rankOfDifference 73 = .ok (.aload_n 3, 1) := zdcg 14 zdT_dX5_rankOfDifference_46 rfl
theorem dX5_rankOfDifference_74 : decode cX5_rankOfDifference 74 = .ok (.aload_n 0, 1) := zdcg 15 zdT_dX5_rankOfDifference_46 rfl
theorem dX5_rankOfDifference_75 : decode cX5_rankOfDifference 75 = .ok (.getfield 96, 3) := zdcg 16 zdT_dX5_rankOfDifference_46 rfl
theorem dX5_rankOfDifference_78 : decode cX5_rankOfDifference 78 = .ok (.aload_n 0, 1) := zdcg 17 zdT_dX5_rankOfDifference_46 rfl
theorem dX5_rankOfDifference_79 : decode cX5_rankOfDifference 79 = .ok (.getfield 96, 3) := zdcg 18 zdT_dX5_rankOfDifference_46 rfl
theorem dX5_rankOfDifference_82 : decode cX5_rankOfDifference 82 = .ok (.aload_n 0, 1) := zdcg 19 zdT_dX5_rankOfDifference_46 rfl
theorem dX5_rankOfDifference_83 : decode cX5_rankOfDifference 83 = .ok (.getfield 96, 3) := zdcg 20 zdT_dX5_rankOfDifference_46 rfl
theorem dX5_rankOfDifference_86 : decode cX5_rankOfDifference 86 = .ok (.invokevirtual 135, 3) := zdcg 21 zdT_dX5_rankOfDifference_46 rfl
theorem dX5_rankOfDifference_89 : decode cX5_rankOfDifference 89 = .ok (.ireturn, 1) := zdcg 22 zdT_dX5_rankOfDifference_46 rfl
theorem zdT_dX5_makeFixed_0 : zdch cX5_makeFixed [(0, (.aload_n 0, 1)), (1, (.getfield 9, 3)), (4, (.getfield 80, 3)), (7, (.iload_n 1, 1)), (8, (.aaload, 1)), (9, (.astore 5, 2)), (11, (.iconst 0, 1)), (12, (.istore 6, 2)), (14, (.iload 6, 2)), (16, (.aload_n 0, 1)), (17, (.getfield 9, 3)), (20, (.getfield 19, 3)), (23, (.if_icmp .ge 66, 3)), (26, (.aload_n 0, 1)), (27, (.getfield 28, 3)), (30, (.iload 6, 2)), (32, (.baload, 1)), (33, (.ifCond .eq 50, 3)), (36, (.aload 5, 2)), (38, (.aload_n 0, 1)), (39, (.getfield 9, 3)), (42, (.getfield 139, 3)), (45, (.iload 6, 2)), (47, (.aaload, 1)), (48, (.aload_n 0, 1))] = true := by decide +kernel
theorem dX5_makeFixed_0 : decode cX5_makeFixed 0 = .ok (.aload_n 0, 1) := zdcg 0 zdT_dX5_makeFixed_0 rfl
theorem dX5_makeFixed_1 : decode cX5_makeFixed 1 = .ok (.getfield 9, 3) := zdcg 1 zdT_dX5_makeFixed_0 rfl
theorem dX5_makeFixed_4 : decode cX5_makeFixed 4 = .ok (.getfield 80, 3) := zdcg 2 zdT_dX5_makeFixed_0 rfl
theorem dX5_makeFixed_7 : decode cX5_makeFixed 7 = .ok (.iload_n 1, 1) := zdcg 3 zdT_dX5_makeFixed_0 rfl
theorem dX5_makeFixed_8 : decode cX5_makeFixed 8 = .ok (.aaload, 1) := zdcg 4 zdT_dX5_makeFixed_0 rfl
theorem dX5_makeFixed_9 : decode cX5_makeFixed 9 = .ok (.astore 5, 2) := zdcg 5 zdT_dX5_makeFixed_0 rfl
theorem dX5_makeFixed_11 : decode cX5_makeFixed 11 = .ok (.iconst 0, 1) := zdcg 6 zdT_dX5_makeFixed_0 rfl
theorem dX5_makeFixed_12 : decode cX5_makeFixed 12 = .ok (.istore 6, 2) := zdcg 7 zdT_dX5_makeFixed_0 rfl
theorem dX5_makeFixed_14 : decode cX5_makeFixed 14 = .ok (.iload 6, 2) := zdcg 8 zdT_dX5_makeFixed_0 rfl
theorem dX5_makeFixed_16 : decode cX5_makeFixed 16 = .ok (.aload_n 0, 1) := zdcg 9 zdT_dX5_makeFixed_0 rfl
theorem dX5_makeFixed_17 : decode cX5_makeFixed 17 = .ok (.getfield 9, 3) := zdcg 10 zdT_dX5_makeFixed_0 rfl
theorem dX5_makeFixed_20 : decode cX5_makeFixed 20 = .ok (.getfield 19, 3) := zdcg 11 zdT_dX5_makeFixed_0 rfl
theorem dX5_makeFixed_23 : decode cX5_makeFixed 23 = .ok (.if_icmp .ge 66, 3) := zdcg 12 zdT_dX5_makeFixed_0 rfl
theorem dX5_makeFixed_26 : decode cX5_makeFixed 26 = .ok (.aload_n 0, 1) := zdcg 13 zdT_dX5_makeFixed_0 rfl
theorem dX5_makeFixed_27 : decode cX5_makeFixed 27 = .ok (.getfield 28, 3) := zdcg 14 zdT_dX5_makeFixed_0 rfl
theorem dX5_makeFixed_30 : decode cX5_makeFixed 30 = .ok (.iload 6, 2) := zdcg 15 zdT_dX5_makeFixed_0 rfl
theorem dX5_makeFixed_32 : decode cX5_makeFixed 32 = .ok (.baload, 1) := zdcg 16 zdT_dX5_makeFixed_0 rfl
theorem dX5_makeFixed_33 : decode cX5_makeFixed 33 = .ok (.ifCond .eq 50, 3) := zdcg 17 zdT_dX5_makeFixed_0 rfl
theorem dX5_makeFixed_36 : decode cX5_makeFixed 36 = .ok (.aload 5, 2) := zdcg 18 zdT_dX5_makeFixed_0 rfl
theorem dX5_makeFixed_38 : decode cX5_makeFixed 38 = .ok (.aload_n 0, 1) := zdcg 19 zdT_dX5_makeFixed_0 rfl
theorem dX5_makeFixed_39 : decode cX5_makeFixed 39 = .ok (.getfield 9, 3) := zdcg 20 zdT_dX5_makeFixed_0 rfl
theorem dX5_makeFixed_42 : decode cX5_makeFixed 42 = .ok (.getfield 139, 3) := zdcg 21 zdT_dX5_makeFixed_0 rfl
theorem dX5_makeFixed_45 : decode cX5_makeFixed 45 = .ok (.iload 6, 2) := zdcg 22 zdT_dX5_makeFixed_0 rfl
theorem dX5_makeFixed_47 : decode cX5_makeFixed 47 = .ok (.aaload, 1) := zdcg 23 zdT_dX5_makeFixed_0 rfl
theorem dX5_makeFixed_48 : decode cX5_makeFixed 48 = .ok (.aload_n 0, 1) := zdcg 24 zdT_dX5_makeFixed_0 rfl
theorem zdT_dX5_makeFixed_49 : zdch cX5_makeFixed [(49, (.getfield 9, 3)), (52, (.getfield 142, 3)), (55, (.aload_n 2, 1)), (56, (.invokevirtual 145, 3)), (59, (.aload 4, 2)), (61, (.iload 6, 2)), (63, (.aload_n 0, 1)), (64, (.getfield 35, 3)), (67, (.iload_n 1, 1)), (68, (.iaload, 1)), (69, (.aload 5, 2)), (71, (.aload_n 2, 1)), (72, (.aload 5, 2)), (74, (.getfield 110, 3)), (77, (.aload_n 3, 1)), (78, (.invokestatic 113, 3)), (81, (.isub, 1)), (82, (.iastore, 1)), (83, (.iinc 6 1, 3)), (86, (.goto (-72), 3)), (89, (.return_, 1))] = true := by decide +kernel
theorem dX5_makeFixed_49 : decode cX5_makeFixed 49 = .ok (.getfield 9, 3) := zdcg 0 zdT_dX5_makeFixed_49 rfl
theorem dX5_makeFixed_52 : decode cX5_makeFixed 52 = .ok (.getfield 142, 3) := zdcg 1 zdT_dX5_makeFixed_49 rfl
theorem dX5_makeFixed_55 : decode cX5_makeFixed 55 = .ok (.aload_n 2, 1) := zdcg 2 zdT_dX5_makeFixed_49 rfl
theorem dX5_makeFixed_56 : decode cX5_makeFixed 56 = .ok (.invokevirtual 145, 3) := zdcg 3 zdT_dX5_makeFixed_49 rfl
theorem dX5_makeFixed_59 : decode cX5_makeFixed 59 = .ok (.aload 4, 2) := zdcg 4 zdT_dX5_makeFixed_49 rfl
theorem dX5_makeFixed_61 : decode cX5_makeFixed 61 = .ok (.iload 6, 2) := zdcg 5 zdT_dX5_makeFixed_49 rfl
theorem dX5_makeFixed_63 : decode cX5_makeFixed 63 = .ok (.aload_n 0, 1) := zdcg 6 zdT_dX5_makeFixed_49 rfl
theorem dX5_makeFixed_64 : decode cX5_makeFixed 64 = .ok (.getfield 35, 3) := zdcg 7 zdT_dX5_makeFixed_49 rfl
theorem dX5_makeFixed_67 : decode cX5_makeFixed 67 = .ok (.iload_n 1, 1) := zdcg 8 zdT_dX5_makeFixed_49 rfl
theorem dX5_makeFixed_68 : decode cX5_makeFixed 68 = .ok (.iaload, 1) := zdcg 9 zdT_dX5_makeFixed_49 rfl
theorem dX5_makeFixed_69 : decode cX5_makeFixed 69 = .ok (.aload 5, 2) := zdcg 10 zdT_dX5_makeFixed_49 rfl
theorem dX5_makeFixed_71 : decode cX5_makeFixed 71 = .ok (.aload_n 2, 1) := zdcg 11 zdT_dX5_makeFixed_49 rfl
theorem dX5_makeFixed_72 : decode cX5_makeFixed 72 = .ok (.aload 5, 2) := zdcg 12 zdT_dX5_makeFixed_49 rfl
theorem dX5_makeFixed_74 : decode cX5_makeFixed 74 = .ok (.getfield 110, 3) := zdcg 13 zdT_dX5_makeFixed_49 rfl
theorem dX5_makeFixed_77 : decode cX5_makeFixed 77 = .ok (.aload_n 3, 1) := zdcg 14 zdT_dX5_makeFixed_49 rfl
theorem dX5_makeFixed_78 : decode cX5_makeFixed 78 = .ok (.invokestatic 113, 3) := zdcg 15 zdT_dX5_makeFixed_49 rfl
theorem dX5_makeFixed_81 : decode cX5_makeFixed 81 = .ok (.isub, 1) := zdcg 16 zdT_dX5_makeFixed_49 rfl
theorem dX5_makeFixed_82 : decode cX5_makeFixed 82 = .ok (.iastore, 1) := zdcg 17 zdT_dX5_makeFixed_49 rfl
theorem dX5_makeFixed_83 : decode cX5_makeFixed 83 = .ok (.iinc 6 1, 3) := zdcg 18 zdT_dX5_makeFixed_49 rfl
theorem dX5_makeFixed_86 : decode cX5_makeFixed 86 = .ok (.goto (-72), 3) := zdcg 19 zdT_dX5_makeFixed_49 rfl
theorem dX5_makeFixed_89 : decode cX5_makeFixed 89 = .ok (.return_, 1) := zdcg 20 zdT_dX5_makeFixed_49 rfl
theorem zdT_dX5_sumOfRoots_0 : zdch cX5_sumOfRoots [(0, (.aload_n 0, 1)), (1, (.getfield 9, 3)), (4, (.getfield 149, 3)), (7, (.iload_n 1, 1)), (8, (.iaload, 1)), (9, (.istore_n 3, 1)), (10, (.iconst 0, 1)), (11, (.istore 4, 2)), (13, (.iconst 1, 1)), (14, (.istore 5, 2)), (16, (.iload 5, 2)), (18, (.iload_n 3, 1)), (19, (.if_icmp .gt 52, 3)), (22, (.iload 5, 2)), (24, (.getstatic 152, 3)), (27, (.arraylength, 1))] = true := by decide +kernel
theorem dX5_sumOfRoots_0 : decode cX5_sumOfRoots 0 = .ok (.aload_n 0, 1) := zdcg 0 zdT_dX5_sumOfRoots_0 rfl
theorem dX5_sumOfRoots_1 : decode cX5_sumOfRoots 1 = .ok (.getfield 9, 3) := zdcg 1 zdT_dX5_sumOfRoots_0 rfl
theorem dX5_sumOfRoots_4 : decode cX5_sumOfRoots 4 = .ok (.getfield 149, 3) := zdcg 2 zdT_dX5_sumOfRoots_0 rfl
theorem dX5_sumOfRoots_7 : decode cX5_sumOfRoots 7 = .ok (.iload_n 1, 1) := zdcg 3 zdT_dX5_sumOfRoots_0 rfl
theorem dX5_sumOfRoots_8 : decode cX5_sumOfRoots 8 = .ok (.iaload, 1) := zdcg 4 zdT_dX5_sumOfRoots_0 rfl
theorem dX5_sumOfRoots_9 : decode cX5_sumOfRoots 9 = .ok (.istore_n 3, 1) := zdcg 5 zdT_dX5_sumOfRoots_0 rfl
theorem dX5_sumOfRoots_10 : decode cX5_sumOfRoots 10 = .ok (.iconst 0, 1) := zdcg 6 zdT_dX5_sumOfRoots_0 rfl
theorem dX5_sumOfRoots_11 : decode cX5_sumOfRoots 11 = .ok (.istore 4, 2) := zdcg 7 zdT_dX5_sumOfRoots_0 rfl
theorem dX5_sumOfRoots_13 : decode cX5_sumOfRoots 13 = .ok (.iconst 1, 1) := zdcg 8 zdT_dX5_sumOfRoots_0 rfl
theorem dX5_sumOfRoots_14 : decode cX5_sumOfRoots 14 = .ok (.istore 5, 2) := zdcg 9 zdT_dX5_sumOfRoots_0 rfl
theorem dX5_sumOfRoots_16 : decode cX5_sumOfRoots 16 = .ok (.iload 5, 2) := zdcg 10 zdT_dX5_sumOfRoots_0 rfl
theorem dX5_sumOfRoots_18 : decode cX5_sumOfRoots 18 = .ok (.iload_n 3, 1) := zdcg 11 zdT_dX5_sumOfRoots_0 rfl
theorem dX5_sumOfRoots_19 : decode cX5_sumOfRoots 19 = .ok (.if_icmp .gt 52, 3) := zdcg 12 zdT_dX5_sumOfRoots_0 rfl
theorem dX5_sumOfRoots_22 : decode cX5_sumOfRoots 22 = .ok (.iload 5, 2) := zdcg 13 zdT_dX5_sumOfRoots_0 rfl
theorem dX5_sumOfRoots_24 : decode cX5_sumOfRoots 24 = .ok (.getstatic 152, 3) := zdcg 14 zdT_dX5_sumOfRoots_0 rfl
theorem dX5_sumOfRoots_27 : decode cX5_sumOfRoots 27 = .ok (.arraylength, 1) := zdcg 15 zdT_dX5_sumOfRoots_0 rfl
