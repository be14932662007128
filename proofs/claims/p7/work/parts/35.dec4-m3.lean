section
/-! instructions of the class, by program -/
theorem zdT_dX8_group_18 : zdch cX8_group [(18, (.if_icmp .eq 16, 3)), (21, (.iload_n 2, 1)), (22, (.iconst 5, 1)), (23, (.if_icmp .eq 11, 3)), (26, (.iload_n 2, 1)), (27, (.bipush 7, 2)), (29, (.if_icmp .eq 5, 3)), (32, (.iconst (-1), 1)), (33, (.ireturn, 1)), (34, (.aload_n 0, 1)), (35, (.getfield 11, 3)), (38, (.iload_n 1, 1)), (39, (.aaload, 1)), (40, (.ifnonnull 17, 3)), (43, (.aload_n 0, 1)), (44, (.getfield 11, 3)), (47, (.iload_n 1, 1)), (48, (.new 9, 3)), (51, (.dup, 1)), (52, (.iload_n 1, 1)), (53, (.invokespecial 37, 3)), (56, (.aastore, 1)), (57, (.aload_n 0, 1)), (58, (.aload_n 0, 1)), (59, (.getfield 11, 3))] = true := by decide +kernel
theorem dX8_group_18 : decode cX8_group 18 = .ok (.if_icmp .eq 16, 3) := zdcg 0 zdT_dX8_group_18 rfl
theorem dX8_group_21 : decode cX8_group 21 = .ok (.iload_n 2, 1) := zdcg 1 zdT_dX8_group_18 rfl
theorem dX8_group_22 : decode cX8_group 22 = .ok (.iconst 5, 1) := zdcg 2 zdT_dX8_group_18 rfl
theorem dX8_group_23 : decode cX8_group 23 = .ok (.if_icmp .eq 11, 3) := zdcg 3 zdT_dX8_group_18 rfl
theorem dX8_group_26 : decode cX8_group 26 = .ok (.iload_n 2, 1) := zdcg 4 zdT_dX8_group_18 rfl
theorem dX8_group_27 : decode cX8_group 27 = .ok (.bipush 7, 2) := zdcg 5 zdT_dX8_group_18 rfl
theorem dX8_group_29 : decode cX8_group 29 = .ok (.if_icmp .eq 5, 3) := zdcg 6 zdT_dX8_group_18 rfl
theorem dX8_group_32 : decode cX8_group 32 = .ok (.iconst (-1), 1) := zdcg 7 zdT_dX8_group_18 rfl
theorem dX8_group_33 : decode cX8_group 33 = .ok (.ireturn, 1) := zdcg 8 zdT_dX8_group_18 rfl
theorem dX8_group_34 : decode cX8_group 34 = .ok (.aload_n 0, 1) := zdcg 9 zdT_dX8_group_18 rfl
theorem dX8_group_35 : decode cX8_group 35 = .ok (.getfield 11, 3) := zdcg 10 zdT_dX8_group_18 rfl
theorem dX8_group_38 : decode cX8_group 38 = .ok (.iload_n 1, 1) := zdcg 11 zdT_dX8_group_18 rfl
theorem dX8_group_39 : decode cX8_group 39 = .ok (.aaload, 1) := zdcg 12 zdT_dX8_group_18 rfl
theorem dX8_group_40 : decode cX8_group 40 = .ok (.ifnonnull 17, 3) := zdcg 13 zdT_dX8_group_18 rfl
theorem dX8_group_43 : decode cX8_group 43 = .ok (.aload_n 0, 1) := zdcg 14 zdT_dX8_group_18 rfl
theorem dX8_group_44 : decode cX8_group 44 = .ok (.getfield 11, 3) := zdcg 15 zdT_dX8_group_18 rfl
theorem dX8_group_47 : decode cX8_group 47 = .ok (.iload_n 1, 1) := zdcg 16 zdT_dX8_group_18 rfl
theorem dX8_group_48 : decode cX8_group 48 = .ok (.new 9, 3) := zdcg 17 zdT_dX8_group_18 rfl
theorem dX8_group_51 : decode cX8_group 51 = .ok (.dup, 1) := zdcg 18 zdT_dX8_group_18 rfl
theorem dX8_group_52 : decode cX8_group 52 = .ok (.iload_n 1, 1) := zdcg 19 zdT_dX8_group_18 rfl
theorem dX8_group_53 : decode cX8_group 53 = .ok (.invokespecial 37, 3) := zdcg 20 zdT_dX8_group_18 rfl
theorem dX8_group_56 : decode cX8_group 56 = .ok (.aastore, 1) := zdcg 21 zdT_dX8_group_18 rfl
theorem dX8_group_57 : decode cX8_group 57 = .ok (.aload_n 0, 1) := zdcg 22 zdT_dX8_group_18 rfl
theorem dX8_group_58 : decode cX8_group 58 = .ok (.aload_n 0, 1) := zdcg 23 zdT_dX8_group_18 rfl
theorem dX8_group_59 : decode cX8_group 59 = .ok (.getfield 11, 3) := zdcg 24 zdT_dX8_group_18 rfl
theorem zdT_dX8_group_62 : zdch cX8_group [(62, (.iload_n 1, 1)), (63, (.aaload, 1)), (64, (.putfield 40, 3)), (67, (.iload_n 1, 1)), (68, (.iload_n 2, 1)), (69, (.invokestatic 51, 3)), (72, (.istore_n 3, 1)), (73, (.aload_n 0, 1)), (74, (.getfield 17, 3)), (77, (.iload_n 3, 1)), (78, (.aaload, 1)), (79, (.ifnonnull 21, 3)), (82, (.aload_n 0, 1)), (83, (.getfield 17, 3)), (86, (.iload_n 3, 1)), (87, (.new 15, 3)), (90, (.dup, 1)), (91, (.aload_n 0, 1)), (92, (.getfield 40, 3)), (95, (.iload_n 2, 1)), (96, (.invokespecial 44, 3)), (99, (.aastore, 1)), (100, (.aload_n 0, 1)), (101, (.aload_n 0, 1)), (102, (.getfield 17, 3))] = true := by decide +kernel
theorem dX8_group_62 : decode cX8_group 62 = .ok (.iload_n 1, 1) := zdcg 0 zdT_dX8_group_62 rfl
theorem dX8_group_63 : decode cX8_group 63 = .ok (.aaload, 1) := zdcg 1 zdT_dX8_group_62 rfl
theorem dX8_group_64 : decode cX8_group 64 = .ok (.putfield 40, 3) := zdcg 2 zdT_dX8_group_62 rfl
theorem dX8_group_67 : decode cX8_group 67 = .ok (.iload_n 1, 1) := zdcg 3 zdT_dX8_group_62 rfl
theorem dX8_group_68 : decode cX8_group 68 = .ok (.iload_n 2, 1) := zdcg 4 zdT_dX8_group_62 rfl
theorem dX8_group_69 : decode cX8_group 69 = .ok (.invokestatic 51, 3) := zdcg 5 zdT_dX8_group_62 rfl
theorem dX8_group_72 : decode cX8_group 72 = .ok (.istore_n 3, 1) := zdcg 6 zdT_dX8_group_62 rfl
theorem dX8_group_73 : decode cX8_group 73 = .ok (.aload_n 0, 1) := zdcg 7 zdT_dX8_group_62 rfl
theorem dX8_group_74 : decode cX8_group 74 = .ok (.getfield 17, 3) := zdcg 8 zdT_dX8_group_62 rfl
theorem dX8_group_77 : decode cX8_group 77 = .ok (.iload_n 3, 1) := zdcg 9 zdT_dX8_group_62 rfl
theorem dX8_group_78 : decode cX8_group 78 = .ok (.aaload, 1) := zdcg 10 zdT_dX8_group_62 rfl
theorem dX8_group_79 : decode cX8_group 79 = .ok (.ifnonnull 21, 3) := zdcg 11 zdT_dX8_group_62 rfl
theorem dX8_group_82 : decode cX8_group 82 = .ok (.aload_n 0, 1) := zdcg 12 zdT_dX8_group_62 rfl
theorem dX8_group_83 : decode cX8_group 83 = .ok (.getfield 17, 3) := zdcg 13 zdT_dX8_group_62 rfl
theorem dX8_group_86 : decode cX8_group 86 = .ok (.iload_n 3, 1) := zdcg 14 zdT_dX8_group_62 rfl
theorem dX8_group_87 : decode cX8_group 87 = .ok (.new 15, 3) := zdcg 15 zdT_dX8_group_62 rfl
theorem dX8_group_90 : decode cX8_group 90 = .ok (.dup, 1) := zdcg 16 zdT_dX8_group_62 rfl
theorem dX8_group_91 : decode cX8_group 91 = .ok (.aload_n 0, 1) := zdcg 17 zdT_dX8_group_62 rfl
theorem dX8_group_92 : decode cX8_group 92 = .ok (.getfield 40, 3) := zdcg 18 zdT_dX8_group_62 rfl
theorem dX8_group_95 : decode cX8_group 95 = .ok (.iload_n 2, 1) := zdcg 19 zdT_dX8_group_62 rfl
theorem dX8_group_96 : decode cX8_group 96 = .ok (.invokespecial 44, 3) := zdcg 20 zdT_dX8_group_62 rfl
theorem dX8_group_99 : decode cX8_group 99 = .ok (.aastore, 1) := zdcg 21 zdT_dX8_group_62 rfl
theorem dX8_group_100 : decode cX8_group 100 = .ok (.aload_n 0, 1) := zdcg 22 zdT_dX8_group_62 rfl
theorem dX8_group_101 : decode cX8_group 101 = .ok (.aload_n 0, 1) := zdcg 23 zdT_dX8_group_62 rfl
theorem dX8_group_102 : decode cX8_group 102 = .ok (.getfield 17, 3) := zdcg 24 zdT_dX8_group_62 rfl
theorem zdT_dX8_group_105 : zdch cX8_group [(105, (.iload_n 3, 1)), (106, (.aaload, 1)), (107, (.putfield 47, 3)), (110, (.aload_n 0, 1)), (111, (.getfield 60, 3)), (114, (.aload_n 0, 1)), (115, (.getfield 40, 3)), (118, (.aload_n 0, 1)), (119, (.getfield 47, 3)), (122, (.invokevirtual 64, 3)), (125, (.iconst 0, 1)), (126, (.istore 4, 2)), (128, (.iload 4, 2)), (130, (.bipush 6, 2)), (132, (.if_icmp .ge 20, 3)), (135, (.aload_n 0, 1)), (136, (.getfield 23, 3)), (139, (.iload 4, 2)), (141, (.aaload, 1)), (142, (.lconst 0, 1)), (143, (.invokestatic 68, 3)), (146, (.iinc 4 1, 3)), (149, (.goto (-21), 3)), (152, (.aload_n 0, 1)), (153, (.getfield 40, 3))] = true := by decide +kernel
theorem dX8_group_105 : decode cX8_group 105 = .ok (.iload_n 3, 1) := zdcg 0 zdT_dX8_group_105 rfl
theorem dX8_group_106 : decode cX8_group 106 = .ok (.aaload, 1) := zdcg 1 zdT_dX8_group_105 rfl
theorem dX8_group_107 : decode cX8_group 107 = .ok (.putfield 47, 3) := zdcg 2 zdT_dX8_group_105 rfl
theorem dX8_group_110 : decode cX8_group 110 = .ok (.aload_n 0, 1) := zdcg 3 zdT_dX8_group_105 rfl
theorem dX8_group_111 : decode cX8_group 111 = .ok (.getfield 60, 3) := zdcg 4 zdT_dX8_group_105 rfl
theorem dX8_group_114 : decode cX8_group 114 = .ok (.aload_n 0, 1) := zdcg 5 zdT_dX8_group_105 rfl
theorem dX8_group_115 : decode cX8_group 115 = .ok (.getfield 40, 3) := zdcg 6 zdT_dX8_group_105 rfl
theorem dX8_group_118 : decode cX8_group 118 = .ok (.aload_n 0, 1) := zdcg 7 zdT_dX8_group_105 rfl
theorem dX8_group_119 : decode cX8_group 119 = .ok (.getfield 47, 3) := zdcg 8 zdT_dX8_group_105 rfl
theorem dX8_group_122 : decode cX8_group 122 = .ok (.invokevirtual 64, 3) := zdcg 9 zdT_dX8_group_105 rfl
theorem dX8_group_125 : decode cX8_group 125 = .ok (.iconst 0, 1) := zdcg 10 zdT_dX8_group_105 rfl
theorem dX8_group_126 : decode cX8_group 126 = .ok (.istore 4, 2) := zdcg 11 zdT_dX8_group_105 rfl
theorem dX8_group_128 : decode cX8_group 128 = .ok (.iload 4, 2) := zdcg 12 zdT_dX8_group_105 rfl
theorem dX8_group_130 : decode cX8_group 130 = .ok (.bipush 6, 2) := zdcg 13 zdT_dX8_group_105 rfl
theorem dX8_group_132 : decode cX8_group 132 = .ok (.if_icmp .ge 20, 3) := zdcg 14 zdT_dX8_group_105 rfl
theorem dX8_group_135 : decode cX8_group 135 = .ok (.aload_n 0, 1) := zdcg 15 zdT_dX8_group_105 rfl
theorem dX8_group_136 : decode cX8_group 136 = .ok (.getfield 23, 3) := zdcg 16 zdT_dX8_group_105 rfl
theorem dX8_group_139 : decode cX8_group 139 = .ok (.iload 4, 2) := zdcg 17 zdT_dX8_group_105 rfl
theorem dX8_group_141 : decode cX8_group 141 = .ok (.aaload, 1) := zdcg 18 zdT_dX8_group_105 rfl
theorem dX8_group_142 : decode cX8_group 142 = .ok (.lconst 0, 1) := zdcg 19 zdT_dX8_group_105 rfl
theorem dX8_group_143 : decode cX8_group 143 = .ok (.invokestatic 68, 3) := zdcg 20 zdT_dX8_group_105 rfl
theorem dX8_group_146 : decode cX8_group 146 = .ok (.iinc 4 1, 3) := zdcg 21 zdT_dX8_group_105 rfl
theorem dX8_group_149 : decode cX8_group 149 = .ok (.goto (-21), 3) := zdcg 22 zdT_dX8_group_105 rfl
theorem dX8_group_152 : decode cX8_group 152 = .ok (.aload_n 0, 1) := zdcg 23 zdT_dX8_group_105 rfl
theorem dX8_group_153 : decode cX8_group 153 = .ok (.getfield 40, 3) := zdcg 24 zdT_dX8_group_105 rfl
theorem zdT_dX8_group_156 : zdch cX8_group [(156, (.getfield 74, 3)), (159, (.ireturn, 1))] = true := by decide +kernel
theorem dX8_group_156 : decode cX8_group 156 = .ok (.getfield 74, 3) := zdcg 0 zdT_dX8_group_156 rfl
theorem dX8_group_159 : decode cX8_group 159 = .ok (.ireturn, 1) := zdcg 1 zdT_dX8_group_156 rfl
theorem zdT_dX8_feed_0 : zdch cX8_feed [(0, (.aload_n 0, 1)), (1, (.getfield 33, 3)), (4, (.bipush 20, 2)), (6, (.invokevirtual 78, 3)), (9, (.ifCond .ne 5, 3)), (12, (.iconst (-1), 1)), (13, (.ireturn, 1)), (14, (.aload_n 0, 1)), (15, (.getfield 33, 3)), (18, (.iload_n 1, 1)), (19, (.invokevirtual 82, 3)), (22, (.aload_n 0, 1)), (23, (.getfield 33, 3)), (26, (.iload_n 2, 1)), (27, (.invokevirtual 82, 3)), (30, (.aload_n 0, 1)), (31, (.getfield 33, 3)), (34, (.iload_n 3, 1)), (35, (.invokevirtual 82, 3)), (38, (.aload_n 0, 1)), (39, (.getfield 33, 3)), (42, (.iload 4, 2)), (44, (.invokevirtual 82, 3)), (47, (.aload_n 0, 1)), (48, (.getfield 33, 3))] = true := by decide +kernel
theorem dX8_feed_0 : decode cX8_feed 0 = .ok (.aload_n 0, 1) := zdcg 0 zdT_dX8_feed_0 rfl
theorem dX8_feed_1 : decode cX8_feed 1 = .ok (.getfield 33, 3) := zdcg 1 zdT_dX8_feed_0 rfl
theorem dX8_feed_4 : decode cX8_feed 4 = .ok (.bipush 20, 2) := zdcg 2 zdT_dX8_feed_0 rfl
theorem dX8_feed_6 : decode cX8_feed 6 = .ok (.invokevirtual 78, 3) := zdcg 3 zdT_dX8_feed_0 rfl
theorem dX8_feed_9 : decode cX8_feed 9 = .ok (.ifCond .ne 5, 3) := zdcg 4 zdT_dX8_feed_0 rfl
theorem dX8_feed_12 : decode cX8_feed 12 = .ok (.iconst (-1), 1) := zdcg 5 zdT_dX8_feed_0 rfl
theorem dX8_feed_13 : decode cX8_feed 13 = .ok (.ireturn, 1) := zdcg 6 zdT_dX8_feed_0 rfl
theorem dX8_feed_14 : decode cX8_feed 14 = .ok (.aload_n 0, 1) := zdcg 7 zdT_dX8_feed_0 rfl
theorem dX8_feed_15 : decode cX8_feed 15 = .ok (.getfield 33, 3) := zdcg 8 zdT_dX8_feed_0 rfl
theorem dX8_feed_18 : decode cX8_feed 18 = .ok (.iload_n 1, 1) := zdcg 9 zdT_dX8_feed_0 rfl
theorem dX8_feed_19 : decode cX8_feed 19 = .ok (.invokevirtual 82, 3) := zdcg 10 zdT_dX8_feed_0 rfl
theorem dX8_feed_22 : decode cX8_feed 22 = .ok (.aload_n 0, 1) := zdcg 11 zdT_dX8_feed_0 rfl
theorem dX8_feed_23 : decode cX8_feed 23 = .ok (.getfield 33, 3) := zdcg 12 zdT_dX8_feed_0 rfl
theorem dX8_feed_26 : decode cX8_feed 26 = .ok (.iload_n 2, 1) := zdcg 13 zdT_dX8_feed_0 rfl
theorem dX8_feed_27 : decode cX8_feed 27 = .ok (.invokevirtual 82, 3) := zdcg 14 zdT_dX8_feed_0 rfl
theorem dX8_feed_30 : decode cX8_feed 30 = .ok (.aload_n 0, 1) := zdcg 15 zdT_dX8_feed_0 rfl
theorem dX8_feed_31 : decode cX8_feed 31 = .ok (.getfield 33, 3) := zdcg 16 zdT_dX8_feed_0 rfl
theorem dX8_feed_34 : decode cX8_feed 34 = .ok (.iload_n 3, 1) := zdcg 17 zdT_dX8_feed_0 rfl
theorem dX8_feed_35 : decode cX8_feed 35 = .ok (.invokevirtual 82, 3) := zdcg 18 zdT_dX8_feed_0 rfl
theorem dX8_feed_38 : decode cX8_feed 38 = .ok (.aload_n 0, 1) := zdcg 19 zdT_dX8_feed_0 rfl
theorem dX8_feed_39 : decode cX8_feed 39 = .ok (.getfield 33, 3) := zdcg 20 zdT_dX8_feed_0 rfl
theorem dX8_feed_42 : decode cX8_feed 42 = .ok (.iload 4, 2) := zdcg 21 zdT_dX8_feed_0 rfl
theorem dX8_feed_44 : decode cX8_feed 44 = .ok (.invokevirtual 82, 3) := zdcg 22 zdT_dX8_feed_0 rfl
theorem dX8_feed_47 : decode cX8_feed 47 = .ok (.aload_n 0, 1) := zdcg 23 zdT_dX8_feed_0 rfl
theorem dX8_feed_48 : decode cX8_feed 48 = .ok (.getfield 33, 3) := zdcg 24 zdT_dX8_feed_0 rfl
theorem zdT_dX8_feed_51 : zdch cX8_feed [(51, (.iload 5, 2)), (53, (.invokevirtual 82, 3)), (56, (.aload_n 0, 1)), (57, (.getfield 33, 3)), (60, (.getfield 85, 3)), (63, (.ireturn, 1))] = true := by decide +kernel
theorem dX8_feed_51 : decode cX8_feed 51 = .ok (.iload 5, 2) := zdcg 0 zdT_dX8_feed_51 rfl
theorem dX8_feed_53 : decode cX8_feed 53 = .ok (.invokevirtual 82, 3) := zdcg 1 zdT_dX8_feed_51 rfl
theorem dX8_feed_56 : decode cX8_feed 56 = .ok (.aload_n 0, 1) := zdcg 2 zdT_dX8_feed_51 rfl
theorem dX8_feed_57 : decode cX8_feed 57 = .ok (.getfield 33, 3) := zdcg 3 zdT_dX8_feed_51 rfl
theorem dX8_feed_60 : decode cX8_feed 60 = .ok (.getfield 85, 3) := zdcg 4 zdT_dX8_feed_51 rfl
theorem dX8_feed_63 : decode cX8_feed 63 = .ok (.ireturn, 1) := zdcg 5 zdT_dX8_feed_51 rfl
theorem zdT_dX8_end_0 : zdch cX8_end [(0, (.iload_n 1, 1)), (1, (.ifCond .lt 14, 3)), (4, (.iload_n 1, 1)), (5, (.aload_n 0, 1)), (6, (.getfield 33, 3)), (9, (.getfield 85, 3)), (12, (.if_icmp .le 5, 3)), (15, (.iconst 0, 1)), (16, (.ireturn, 1)), (17, (.aload_n 0, 1)), (18, (.getfield 33, 3)), (21, (.iload_n 1, 1)), (22, (.putfield 85, 3)), (25, (.iconst 1, 1)), (26, (.ireturn, 1))] = true := by decide +kernel
theorem dX8_end_0 : decode cX8_end 0 = .ok (.iload_n 1, 1) := zdcg 0 zdT_dX8_end_0 rfl
theorem dX8_end_1 : decode cX8_end 1 = .ok (.ifCond .lt 14, 3) := zdcg 1 zdT_dX8_end_0 rfl
theorem dX8_end_4 : decode cX8_end 4 = .ok (.iload_n 1, 1) := zdcg 2 zdT_dX8_end_0 rfl
theorem dX8_end_5 : decode cX8_end 5 = .ok (.aload_n 0, 1) := zdcg 3 zdT_dX8_end_0 rfl
theorem dX8_end_6 : decode cX8_end 6 = .ok (.getfield 33, 3) := zdcg 4 zdT_dX8_end_0 rfl
theorem dX8_end_9 : decode cX8_end 9 = .ok (.getfield 85, 3) := zdcg 5 zdT_dX8_end_0 rfl
theorem dX8_end_12 : decode cX8_end 12 = .ok (.if_icmp .le 5, 3) := zdcg 6 zdT_dX8_end_0 rfl
theorem dX8_end_15 : decode cX8_end 15 = .ok (.iconst 0, 1) := zdcg 7 zdT_dX8_end_0 rfl
theorem dX8_end_16 : decode cX8_end 16 = .ok (.ireturn, 1) := zdcg 8 zdT_dX8_end_0 rfl
theorem dX8_end_17 : decode cX8_end 17 = .ok (.aload_n 0, 1) := zdcg 9 zdT_dX8_end_0 rfl
theorem dX8_end_18 : decode cX8_end 18 = .ok (.getfield 33, 3) := zdcg 10 zdT_dX8_end_0 rfl
theorem dX8_end_21 : decode cX8_end 21 = .ok (.iload_n 1, 1) := zdcg 11 zdT_dX8_end_0 rfl
theorem dX8_end_22 : decode cX8_end 22 = .ok (.putfield 85, 3) := zdcg 12 zdT_dX8_end_0 rfl
theorem dX8_end_25 : decode cX8_end 25 = .ok (.iconst 1, 1) := zdcg 13 zdT_dX8_end_0 rfl
theorem dX8_end_26 : decode cX8_end 26 = .ok (.ireturn, 1) := zdcg 14 zdT_dX8_end_0 rfl
theorem zdT_dX8_text_0 : zdch cX8_text [(0, (.bipush (-2), 2)), (2, (.istore_n 2, 1)), (3, (.iload_n 1, 1)), (4, (.invokestatic 88, 3)), (7, (.ifCond .ne 16, 3)), (10, (.aload_n 0, 1)), (11, (.getfield 60, 3)), (14, (.getfield 91, 3)), (17, (.invokevirtual 95, 3)), (20, (.goto 42, 3)), (23, (.aload_n 0, 1)), (24, (.getfield 60, 3)), (27, (.invokevirtual 100, 3)), (30, (.ifCond .eq 30, 3)), (33, (.aload_n 0, 1)), (34, (.getfield 60, 3)), (37, (.getfield 104, 3)), (40, (.iconst 0, 1)), (41, (.aaload, 1)), (42, (.iconst 0, 1)), (43, (.aload_n 0, 1)), (44, (.getfield 23, 3)), (47, (.iload_n 1, 1)), (48, (.aaload, 1)), (49, (.iconst 0, 1))] = true := by decide +kernel
theorem dX8_text_0 : decode cX8_text 0 = .ok (.bipush (-2), 2) := zdcg 0 zdT_dX8_text_0 rfl
theorem dX8_text_2 : decode cX8_text 2 = .ok (.istore_n 2, 1) := zdcg 1 zdT_dX8_text_0 rfl
theorem dX8_text_3 : decode cX8_text 3 = .ok (.iload_n 1, 1) := zdcg 2 zdT_dX8_text_0 rfl
theorem dX8_text_4 : decode cX8_text 4 = .ok (.invokestatic 88, 3) := zdcg 3 zdT_dX8_text_0 rfl
theorem dX8_text_7 : decode cX8_text 7 = .ok (.ifCond .ne 16, 3) := zdcg 4 zdT_dX8_text_0 rfl
theorem dX8_text_10 : decode cX8_text 10 = .ok (.aload_n 0, 1) := zdcg 5 zdT_dX8_text_0 rfl
theorem dX8_text_11 : decode cX8_text 11 = .ok (.getfield 60, 3) := zdcg 6 zdT_dX8_text_0 rfl
theorem dX8_text_14 : decode cX8_text 14 = .ok (.getfield 91, 3) := zdcg 7 zdT_dX8_text_0 rfl
theorem dX8_text_17 : decode cX8_text 17 = .ok (.invokevirtual 95, 3) := zdcg 8 zdT_dX8_text_0 rfl
theorem dX8_text_20 : decode cX8_text 20 = .ok (.goto 42, 3) := zdcg 9 zdT_dX8_text_0 rfl
theorem dX8_text_23 : decode cX8_text 23 = .ok (.aload_n 0, 1) := zdcg 10 zdT_dX8_text_0 rfl
theorem dX8_text_24 : decode cX8_text 24 = .ok (.getfield 60, 3) := zdcg 11 zdT_dX8_text_0 rfl
theorem dX8_text_27 : decode cX8_text 27 = .ok (.invokevirtual 100, 3) := zdcg 12 zdT_dX8_text_0 rfl
theorem dX8_text_30 : decode cX8_text 30 = .ok (.ifCond .eq 30, 3) := zdcg 13 zdT_dX8_text_0 rfl
theorem dX8_text_33 : decode cX8_text 33 = .ok (.aload_n 0, 1) := zdcg 14 zdT_dX8_text_0 rfl
theorem dX8_text_34 : decode cX8_text 34 = .ok (.getfield 60, 3) := zdcg 15 zdT_dX8_text_0 rfl
theorem dX8_text_37 : decode cX8_text 37 = .ok (.getfield 104, 3) := zdcg 16 zdT_dX8_text_0 rfl
theorem dX8_text_40 : decode cX8_text 40 = .ok (.iconst 0, 1) := zdcg 17 zdT_dX8_text_0 rfl
theorem dX8_text_41 : decode cX8_text 41 = .ok (.aaload, 1) := zdcg 18 zdT_dX8_text_0 rfl
theorem dX8_text_42 : decode cX8_text 42 = .ok (.iconst 0, 1) := zdcg 19 zdT_dX8_text_0 rfl
theorem dX8_text_43 : decode cX8_text 43 = .ok (.aload_n 0, 1) := zdcg 20 zdT_dX8_text_0 rfl
theorem dX8_text_44 : decode cX8_text 44 = .ok (.getfield 23, 3) := zdcg 21 zdT_dX8_text_0 rfl
theorem dX8_text_47 : decode cX8_text 47 = .ok (.iload_n 1, 1) := zdcg 22 zdT_dX8_text_0 rfl
theorem dX8_text_48 : decode cX8_text 48 = .ok (.aaload, 1) := zdcg 23 zdT_dX8_text_0 rfl
theorem dX8_text_49 : decode cX8_text 49 = .ok (.iconst 0, 1) := zdcg 24 zdT_dX8_text_0 rfl
theorem zdT_dX8_text_50 : zdch cX8_text [(50, (.bipush 11, 2)), (52, (.invokestatic 107, 3)), (55, (.iconst 0, 1)), (56, (.istore_n 2, 1)), (57, (.goto 5, 3)), (60, (.iconst (-1), 1)), (61, (.istore_n 2, 1)), (62, (.aload_n 0, 1)), (63, (.getfield 33, 3)), (66, (.iconst 0, 1)), (67, (.putfield 85, 3)), (70, (.iload_n 2, 1)), (71, (.ireturn, 1))] = true := by decide +kernel
theorem dX8_text_50 : decode cX8_text 50 = .ok (.bipush 11, 2) := zdcg 0 zdT_dX8_text_50 rfl
theorem dX8_text_52 : decode cX8_text 52 = .ok (.invokestatic 107, 3) := zdcg 1 zdT_dX8_text_50 rfl
theorem dX8_text_55 : decode cX8_text 55 = .ok (.iconst 0, 1) := zdcg 2 zdT_dX8_text_50 rfl
theorem dX8_text_56 : decode cX8_text 56 = .ok (.istore_n 2, 1) := zdcg 3 zdT_dX8_text_50 rfl
theorem dX8_text_57 : decode cX8_text 57 = .ok (.goto 5, 3) := zdcg 4 zdT_dX8_text_50 rfl
theorem dX8_text_60 : decode cX8_text 60 = .ok (.iconst (-1), 1) := zdcg 5 zdT_dX8_text_50 rfl
theorem dX8_text_61 : decode cX8_text 61 = .ok (.istore_n 2, 1) := zdcg 6 zdT_dX8_text_50 rfl
theorem dX8_text_62 : decode cX8_text 62 = .ok (.aload_n 0, 1) := zdcg 7 zdT_dX8_text_50 rfl
theorem dX8_text_63 : decode cX8_text 63 = .ok (.getfield 33, 3) := zdcg 8 zdT_dX8_text_50 rfl
theorem dX8_text_66 : decode cX8_text 66 = .ok (.iconst 0, 1) := zdcg 9 zdT_dX8_text_50 rfl
theorem dX8_text_67 : decode cX8_text 67 = .ok (.putfield 85, 3) := zdcg 10 zdT_dX8_text_50 rfl
theorem dX8_text_70 : decode cX8_text 70 = .ok (.iload_n 2, 1) := zdcg 11 zdT_dX8_text_50 rfl
theorem dX8_text_71 : decode cX8_text 71 = .ok (.ireturn, 1) := zdcg 12 zdT_dX8_text_50 rfl
theorem zdT_dX8_fault_0 : zdch cX8_fault [(0, (.aload_n 0, 1)), (1, (.getfield 60, 3)), (4, (.getfield 91, 3)), (7, (.astore_n 2, 1)), (8, (.iload_n 1, 1)), (9, (.tableswitch 42 0 2 #[27, 32, 37], 27)), (36, (.aload_n 2, 1)), (37, (.getfield 113, 3)), (40, (.ireturn, 1)), (41, (.aload_n 2, 1)), (42, (.getfield 116, 3)), (45, (.ireturn, 1)), (46, (.aload_n 2, 1)), (47, (.getfield 119, 3)), (50, (.ireturn, 1)), (51, (.iload_n 1, 1)), (52, (.bipush 10, 2)), (54, (.if_icmp .lt 14, 3)), (57, (.iload_n 1, 1)), (58, (.bipush 10, 2)), (60, (.isub, 1)), (61, (.aload_n 2, 1)), (62, (.getfield 119, 3)), (65, (.if_icmp .lt 5, 3)), (68, (.iconst (-1), 1))] = true := by decide +kernel
theorem dX8_fault_0 : decode cX8_fault 0 = .ok (.aload_n 0, 1) := zdcg 0 zdT_dX8_fault_0 rfl
theorem dX8_fault_1 : decode cX8_fault 1 = .ok (.getfield 60, 3) := zdcg 1 zdT_dX8_fault_0 rfl
theorem dX8_fault_4 : decode cX8_fault 4 = .ok (.getfield 91, 3) := zdcg 2 zdT_dX8_fault_0 rfl
theorem dX8_fault_7 : decode cX8_fault 7 = .ok (.astore_n 2, 1) := zdcg 3 zdT_dX8_fault_0 rfl
theorem dX8_fault_8 : decode cX8_fault 8 = .ok (.iload_n 1, 1) := zdcg 4 zdT_dX8_fault_0 rfl
theorem dX8_fault_9 : decode cX8_fault 9 = .ok (.tableswitch 42 0 2 #[27, 32, 37], 27) := zdcg 5 zdT_dX8_fault_0 rfl
theorem dX8_fault_36 : decode cX8_fault 36 = .ok (.aload_n 2, 1) := zdcg 6 zdT_dX8_fault_0 rfl
theorem dX8_fault_37 : decode cX8_fault 37 = .ok (.getfield 113, 3) := zdcg 7 zdT_dX8_fault_0 rfl
theorem dX8_fault_40 : decode cX8_fault 40 = .ok (.ireturn, 1) := zdcg 8 zdT_dX8_fault_0 rfl
theorem dX8_fault_41 : decode cX8_fault 41 = .ok (.aload_n 2, 1) := zdcg 9 zdT_dX8_fault_0 rfl
theorem dX8_fault_42 : decode cX8_fault 42 = .ok (.getfield 116, 3) := zdcg 10 zdT_dX8_fault_0 rfl
theorem dX8_fault_45 : decode cX8_fault 45 = .ok (.ireturn, 1) := zdcg 11 zdT_dX8_fault_0 rfl
theorem dX8_fault_46 : decode cX8_fault 46 = .ok (.aload_n 2, 1) := zdcg 12 zdT_dX8_fault_0 rfl
theorem dX8_fault_47 : decode cX8_fault 47 = .ok (.getfield 119, 3) := zdcg 13 zdT_dX8_fault_0 rfl
theorem dX8_fault_50 : decode cX8_fault 50 = .ok (.ireturn, 1) := zdcg 14 zdT_dX8_fault_0 rfl
theorem dX8_fault_51 : decode cX8_fault 51 = .ok (.iload_n 1, 1) := zdcg 15 zdT_dX8_fault_0 rfl
theorem dX8_fault_52 : decode cX8_fault 52 = .ok (.bipush 10, 2) := zdcg 16 zdT_dX8_fault_0 rfl
theorem dX8_fault_54 : decode cX8_fault 54 = .ok (.if_icmp .lt 14, 3) := zdcg 17 zdT_dX8_fault_0 rfl
theorem dX8_fault_57 : decode cX8_fault 57 = .ok (.iload_n 1, 1) := zdcg 18 zdT_dX8_fault_0 rfl
theorem dX8_fault_58 : decode cX8_fault 58 = .ok (.bipush 10, 2) := zdcg 19 zdT_dX8_fault_0 rfl
theorem dX8_fault_60 : decode cX8_fault 60 = .ok (.isub, 1) := zdcg 20 zdT_dX8_fault_0 rfl
theorem dX8_fault_61 : decode cX8_fault 61 = .ok (.aload_n 2, 1) := zdcg 21 zdT_dX8_fault_0 rfl
theorem dX8_fault_62 : decode cX8_fault 62 = .ok (.getfield 119, 3) := zdcg 22 zdT_dX8_fault_0 rfl
theorem dX8_fault_65 : decode cX8_fault 65 = .ok (.if_icmp .lt 5, 3) := zdcg 23 zdT_dX8_fault_0 rfl
theorem dX8_fault_68 : decode cX8_fault 68 = .ok (.iconst (-1), 1) := zdcg 24 zdT_dX8_fault_0 rfl
theorem zdT_dX8_fault_69 : zdch cX8_fault [(69, (.ireturn, 1)), (70, (.aload_n 2, 1)), (71, (.getfield 122, 3)), (74, (.iload_n 1, 1)), (75, (.bipush 10, 2)), (77, (.isub, 1)), (78, (.iaload, 1)), (79, (.ireturn, 1))] = true := by decide +kernel
theorem dX8_fault_69 : decode cX8_fault 69 = .ok (.ireturn, 1) := zdcg 0 zdT_dX8_fault_69 rfl
theorem dX8_fault_70 : decode cX8_fault 70 = .ok (.aload_n 2, 1) := zdcg 1 zdT_dX8_fault_69 rfl
theorem dX8_fault_71 : decode cX8_fault 71 = .ok (.getfield 122, 3) := zdcg 2 zdT_dX8_fault_69 rfl
theorem dX8_fault_74 : decode cX8_fault 74 = .ok (.iload_n 1, 1) := zdcg 3 zdT_dX8_fault_69 rfl
theorem dX8_fault_75 : decode cX8_fault 75 = .ok (.bipush 10, 2) := zdcg 4 zdT_dX8_fault_69 rfl
theorem dX8_fault_77 : decode cX8_fault 77 = .ok (.isub, 1) := zdcg 5 zdT_dX8_fault_69 rfl
theorem dX8_fault_78 : decode cX8_fault 78 = .ok (.iaload, 1) := zdcg 6 zdT_dX8_fault_69 rfl
theorem dX8_fault_79 : decode cX8_fault 79 = .ok (.ireturn, 1) := zdcg 7 zdT_dX8_fault_69 rfl
theorem zdT_dX8_partition_0 : zdch cX8_partition [(0, (.aload_n 0, 1)), (1, (.iload_n 1, 1)), (2, (.invokevirtual 126, 3)), (5, (.ifCond .eq 8, 3)), (8, (.iload_n 2, 1)), (9, (.iconst (-1), 1)), (10, (.if_icmp .ge 5, 3)), (13, (.iconst (-1), 1)), (14, (.ireturn, 1)), (15, (.aload_n 0, 1)), (16, (.getfield 40, 3)), (19, (.getfield 129, 3)), (22, (.iload_n 1, 1)), (23, (.aaload, 1)), (24, (.astore_n 3, 1)), (25, (.iload_n 2, 1)), (26, (.iconst (-1), 1)), (27, (.if_icmp .ne 10, 3)), (30, (.aload_n 3, 1)), (31, (.getfield 133, 3)), (34, (.goto 11, 3)), (37, (.aload_n 3, 1)), (38, (.getfield 138, 3)), (41, (.iload_n 2, 1)), (42, (.invokestatic 141, 3))] = true := by decide +kernel
theorem dX8_partition_0 : decode cX8_partition 0 = .ok (.aload_n 0, 1) := zdcg 0 zdT_dX8_partition_0 rfl
theorem dX8_partition_1 : decode cX8_partition 1 = .ok (.iload_n 1, 1) := zdcg 1 zdT_dX8_partition_0 rfl
theorem dX8_partition_2 : decode cX8_partition 2 = .ok (.invokevirtual 126, 3) := zdcg 2 zdT_dX8_partition_0 rfl
theorem dX8_partition_5 : decode cX8_partition 5 = .ok (.ifCond .eq 8, 3) := zdcg 3 zdT_dX8_partition_0 rfl
theorem dX8_partition_8 : decode cX8_partition 8 = .ok (.iload_n 2, 1) := zdcg 4 zdT_dX8_partition_0 rfl
theorem dX8_partition_9 : decode cX8_partition 9 = .ok (.iconst (-1), 1) := zdcg 5 zdT_dX8_partition_0 rfl
theorem dX8_partition_10 : decode cX8_partition 10 = .ok (.if_icmp .ge 5, 3) := zdcg 6 zdT_dX8_partition_0 rfl
theorem dX8_partition_13 : decode cX8_partition 13 = .ok (.iconst (-1), 1) := zdcg 7 zdT_dX8_partition_0 rfl
theorem dX8_partition_14 : decode cX8_partition 14 = .ok (.ireturn, 1) := zdcg 8 zdT_dX8_partition_0 rfl
theorem dX8_partition_15 : decode cX8_partition 15 = .ok (.aload_n 0, 1) := zdcg 9 zdT_dX8_partition_0 rfl
theorem dX8_partition_16 : decode cX8_partition 16 = .ok (.getfield 40, 3) := zdcg 10 zdT_dX8_partition_0 rfl
theorem dX8_partition_19 : decode cX8_partition 19 = .ok (.getfield 129, 3) := zdcg 11 zdT_dX8_partition_0 rfl
theorem dX8_partition_22 : decode cX8_partition 22 = .ok (.iload_n 1, 1) := zdcg 12 zdT_dX8_partition_0 rfl
theorem dX8_partition_23 : decode cX8_partition 23 = .ok (.aaload, 1) := zdcg 13 zdT_dX8_partition_0 rfl
theorem dX8_partition_24 : decode cX8_partition 24 = .ok (.astore_n 3, 1) := zdcg 14 zdT_dX8_partition_0 rfl
theorem dX8_partition_25 : decode cX8_partition 25 = .ok (.iload_n 2, 1) := zdcg 15 zdT_dX8_partition_0 rfl
theorem dX8_partition_26 : decode cX8_partition 26 = .ok (.iconst (-1), 1) := zdcg 16 zdT_dX8_partition_0 rfl
theorem dX8_partition_27 : decode cX8_partition 27 = .ok (.if_icmp .ne 10, 3) := zdcg 17 zdT_dX8_partition_0 rfl
theorem dX8_partition_30 : decode cX8_partition 30 = .ok (.aload_n 3, 1) := zdcg 18 zdT_dX8_partition_0 rfl
theorem dX8_partition_31 : decode cX8_partition 31 = .ok (.getfield 133, 3) := zdcg 19 zdT_dX8_partition_0 rfl
theorem dX8_partition_34 : decode cX8_partition 34 = .ok (.goto 11, 3) := zdcg 20 zdT_dX8_partition_0 rfl
theorem dX8_partition_37 : decode cX8_partition 37 = .ok (.aload_n 3, 1) := zdcg 21 zdT_dX8_partition_0 rfl
theorem dX8_partition_38 : decode cX8_partition 38 = .ok (.getfield 138, 3) := zdcg 22 zdT_dX8_partition_0 rfl
theorem dX8_partition_41 : decode cX8_partition 41 = .ok (.iload_n 2, 1) := zdcg 23 zdT_dX8_partition_0 rfl
theorem dX8_partition_42 : decode cX8_partition 42 = .ok (.invokestatic 141, 3) := zdcg 24 zdT_dX8_partition_0 rfl
theorem zdT_dX8_partition_45 : zdch cX8_partition [(45, (.ireturn, 1))] = true := by decide +kernel
theorem dX8_partition_45 : decode cX8_partition 45 = .ok (.ireturn, 1) := zdcg 0 zdT_dX8_partition_45 rfl
theorem zdT_dX8_of_0 : zdch cX8_of [(0, (.aload_n 0, 1)), (1, (.iload_n 1, 1)), (2, (.invokevirtual 126, 3)), (5, (.ifCond .ne 5, 3)), (8, (.iconst (-1), 1)), (9, (.ireturn, 1)), (10, (.iload_n 2, 1)), (11, (.tableswitch 148 0 7 #[45, 57, 70, 83, 96, 106, 116, 138], 45)), (56, (.aload_n 0, 1)), (57, (.getfield 47, 3)), (60, (.iload_n 1, 1)), (61, (.invokevirtual 145, 3)), (64, (.invokestatic 148, 3)), (67, (.ireturn, 1)), (68, (.aload_n 0, 1)), (69, (.getfield 47, 3)), (72, (.getfield 152, 3)), (75, (.getfield 156, 3)), (78, (.iload_n 1, 1)), (79, (.iaload, 1)), (80, (.ireturn, 1)), (81, (.aload_n 0, 1)), (82, (.getfield 47, 3)), (85, (.getfield 152, 3)), (88, (.getfield 161, 3))] = true := by decide +kernel
theorem dX8_of_0 : decode cX8_of 0 = .ok (.aload_n 0, 1) := zdcg 0 zdT_dX8_of_0 rfl
theorem dX8_of_1 : decode cX8_of 1 = .ok (.iload_n 1, 1) := zdcg 1 zdT_dX8_of_0 rfl
theorem dX8_of_2 : decode cX8_of 2 = .ok (.invokevirtual 126, 3) := zdcg 2 zdT_dX8_of_0 rfl
theorem dX8_of_5 : decode cX8_of 5 = .ok (.ifCond .ne 5, 3) := zdcg 3 zdT_dX8_of_0 rfl
theorem dX8_of_8 : decode cX8_of 8 = .ok (.iconst (-1), 1) := zdcg 4 zdT_dX8_of_0 rfl
theorem dX8_of_9 : decode cX8_of 9 = .ok (.ireturn, 1) := zdcg 5 zdT_dX8_of_0 rfl
theorem dX8_of_10 : decode cX8_of 10 = .ok (.iload_n 2, 1) := zdcg 6 zdT_dX8_of_0 rfl
theorem dX8_of_11 : decode cX8_of 11 = .ok (.tableswitch 148 0 7 #[45, 57, 70, 83, 96, 106, 116, 138], 45) := zdcg 7 zdT_dX8_of_0 rfl
theorem dX8_of_56 : decode cX8_of 56 = .ok (.aload_n 0, 1) := zdcg 8 zdT_dX8_of_0 rfl
theorem dX8_of_57 : decode cX8_of 57 = .ok (.getfield 47, 3) := zdcg 9 zdT_dX8_of_0 rfl
theorem dX8_of_60 : decode cX8_of 60 = .ok (.iload_n 1, 1) := zdcg 10 zdT_dX8_of_0 rfl
theorem dX8_of_61 : decode cX8_of 61 = .ok (.invokevirtual 145, 3) := zdcg 11 zdT_dX8_of_0 rfl
theorem dX8_of_64 : decode cX8_of 64 = .ok (.invokestatic 148, 3) := zdcg 12 zdT_dX8_of_0 rfl
theorem dX8_of_67 : decode cX8_of 67 = .ok (.ireturn, 1) := zdcg 13 zdT_dX8_of_0 rfl
theorem dX8_of_68 : decode cX8_of 68 = .ok (.aload_n 0, 1) := zdcg 14 zdT_dX8_of_0 rfl
theorem dX8_of_69 : decode cX8_of 69 = .ok (.getfield 47, 3) := zdcg 15 zdT_dX8_of_0 rfl
theorem dX8_of_72 : decode cX8_of 72 = .ok (.getfield 152, 3) := zdcg 16 zdT_dX8_of_0 rfl
theorem dX8_of_75 : decode cX8_of 75 = .ok (.getfield 156, 3) := zdcg 17 zdT_dX8_of_0 rfl
theorem dX8_of_78 : decode cX8_of 78 = .ok (.iload_n 1, 1) := zdcg 18 zdT_dX8_of_0 rfl
theorem dX8_of_79 : decode cX8_of 79 = .ok (.iaload, 1) := zdcg 19 zdT_dX8_of_0 rfl
theorem dX8_of_80 : decode cX8_of 80 = .ok (.ireturn, 1) := zdcg 20 zdT_dX8_of_0 rfl
theorem dX8_of_81 : decode cX8_of 81 = .ok (.aload_n 0, 1) := zdcg 21 zdT_dX8_of_0 rfl
theorem dX8_of_82 : decode cX8_of 82 = .ok (.getfield 47, 3) := zdcg 22 zdT_dX8_of_0 rfl
theorem dX8_of_85 : decode cX8_of 85 = .ok (.getfield 152, 3) := zdcg 23 zdT_dX8_of_0 rfl
theorem dX8_of_88 : decode cX8_of 88 = .ok (.getfield 161, 3) := zdcg 24 zdT_dX8_of_0 rfl
theorem zdT_dX8_of_91 : zdch cX8_of [(91, (.iload_n 1, 1)), (92, (.iaload, 1)), (93, (.ireturn, 1)), (94, (.aload_n 0, 1)), (95, (.getfield 40, 3)), (98, (.getfield 129, 3)), (101, (.iload_n 1, 1)), (102, (.aaload, 1)), (103, (.getfield 164, 3)), (106, (.ireturn, 1)), (107, (.aload_n 0, 1)), (108, (.getfield 47, 3)), (111, (.getfield 167, 3)), (114, (.iload_n 1, 1)), (115, (.iaload, 1)), (116, (.ireturn, 1)), (117, (.aload_n 0, 1)), (118, (.getfield 40, 3)), (121, (.getfield 170, 3)), (124, (.iload_n 1, 1)), (125, (.iaload, 1)), (126, (.ireturn, 1)), (127, (.aload_n 0, 1)), (128, (.getfield 40, 3)), (131, (.getfield 170, 3))] = true := by decide +kernel
theorem dX8_of_91 : decode cX8_of 91 = .ok (.iload_n 1, 1) := zdcg 0 zdT_dX8_of_91 rfl
theorem dX8_of_92 : decode cX8_of 92 = .ok (.iaload, 1) := zdcg 1 zdT_dX8_of_91 rfl
theorem dX8_of_93 : decode cX8_of 93 = .ok (.ireturn, 1) := zdcg 2 zdT_dX8_of_91 rfl
theorem dX8_of_94 : decode cX8_of 94 = .ok (.aload_n 0, 1) := zdcg 3 zdT_dX8_of_91 rfl
theorem dX8_of_95 : decode cX8_of 95 = .ok (.getfield 40, 3) := zdcg 4 zdT_dX8_of_91 rfl
theorem dX8_of_98 : decode cX8_of 98 = .ok (.getfield 129, 3) := zdcg 5 zdT_dX8_of_91 rfl
theorem dX8_of_101 : decode cX8_of 101 = .ok (.iload_n 1, 1) := zdcg 6 zdT_dX8_of_91 rfl
theorem dX8_of_102 : decode cX8_of 102 = .ok (.aaload, 1) := zdcg 7 zdT_dX8_of_91 rfl
theorem dX8_of_103 : decode cX8_of 103 = .ok (.getfield 164, 3) := zdcg 8 zdT_dX8_of_91 rfl
theorem dX8_of_106 : decode cX8_of 106 = .ok (.ireturn, 1) := zdcg 9 zdT_dX8_of_91 rfl
theorem dX8_of_107 : decode cX8_of 107 = .ok (.aload_n 0, 1) := zdcg 10 zdT_dX8_of_91 rfl
theorem dX8_of_108 : decode cX8_of 108 = .ok (.getfield 47, 3) := zdcg 11 zdT_dX8_of_91 rfl
theorem dX8_of_111 : decode cX8_of 111 = .ok (.getfield 167, 3) := zdcg 12 zdT_dX8_of_91 rfl
theorem dX8_of_114 : decode cX8_of 114 = .ok (.iload_n 1, 1) := zdcg 13 zdT_dX8_of_91 rfl
theorem dX8_of_115 : decode cX8_of 115 = .ok (.iaload, 1) := zdcg 14 zdT_dX8_of_91 rfl
theorem dX8_of_116 : decode cX8_of 116 = .ok (.ireturn, 1) := zdcg 15 zdT_dX8_of_91 rfl
theorem dX8_of_117 : decode cX8_of 117 = .ok (.aload_n 0, 1) := zdcg 16 zdT_dX8_of_91 rfl
theorem dX8_of_118 : decode cX8_of 118 = .ok (.getfield 40, 3) := zdcg 17 zdT_dX8_of_91 rfl
theorem dX8_of_121 : decode cX8_of 121 = .ok (.getfield 170, 3) := zdcg 18 zdT_dX8_of_91 rfl
theorem dX8_of_124 : decode cX8_of 124 = .ok (.iload_n 1, 1) := zdcg 19 zdT_dX8_of_91 rfl
theorem dX8_of_125 : decode cX8_of 125 = .ok (.iaload, 1) := zdcg 20 zdT_dX8_of_91 rfl
theorem dX8_of_126 : decode cX8_of 126 = .ok (.ireturn, 1) := zdcg 21 zdT_dX8_of_91 rfl
theorem dX8_of_127 : decode cX8_of 127 = .ok (.aload_n 0, 1) := zdcg 22 zdT_dX8_of_91 rfl
theorem dX8_of_128 : decode cX8_of 128 = .ok (.getfield 40, 3) := zdcg 23 zdT_dX8_of_91 rfl
theorem dX8_of_131 : decode cX8_of 131 = .ok (.getfield 170, 3) := zdcg 24 zdT_dX8_of_91 rfl
theorem zdT_dX8_of_134 : zdch cX8_of [(134, (.iload_n 1, 1)), (135, (.iaload, 1)), (136, (.iload_n 1, 1)), (137, (.if_icmp .ne 7, 3)), (140, (.iconst 1, 1)), (141, (.goto 4, 3)), (144, (.iconst 0, 1)), (145, (.invokestatic 148, 3)), (148, (.ireturn, 1)), (149, (.aload_n 0, 1)), (150, (.getfield 47, 3)), (153, (.getfield 173, 3)), (156, (.iload_n 1, 1)), (157, (.iaload, 1)), (158, (.ireturn, 1)), (159, (.iconst (-1), 1)), (160, (.ireturn, 1))] = true := by decide +kernel
theorem dX8_of_134 : decode cX8_of 134 = .ok (.iload_n 1, 1) := zdcg 0 zdT_dX8_of_134 rfl
theorem dX8_of_135 : decode cX8_of 135 = .ok (.iaload, 1) := zdcg 1 zdT_dX8_of_134 rfl
theorem dX8_of_136 : decode cX8_of 136 = .ok (.iload_n 1, 1) := zdcg 2 zdT_dX8_of_134 rfl
theorem dX8_of_137 : decode cX8_of 137 = .ok (.if_icmp .ne 7, 3) := zdcg 3 zdT_dX8_of_134 rfl
theorem dX8_of_140 : decode cX8_of 140 = .ok (.iconst 1, 1) := zdcg 4 zdT_dX8_of_134 rfl
theorem dX8_of_141 : decode cX8_of 141 = .ok (.goto 4, 3) := zdcg 5 zdT_dX8_of_134 rfl
theorem dX8_of_144 : decode cX8_of 144 = .ok (.iconst 0, 1) := zdcg 6 zdT_dX8_of_134 rfl
theorem dX8_of_145 : decode cX8_of 145 = .ok (.invokestatic 148, 3) := zdcg 7 zdT_dX8_of_134 rfl
theorem dX8_of_148 : decode cX8_of 148 = .ok (.ireturn, 1) := zdcg 8 zdT_dX8_of_134 rfl
theorem dX8_of_149 : decode cX8_of 149 = .ok (.aload_n 0, 1) := zdcg 9 zdT_dX8_of_134 rfl
theorem dX8_of_150 : decode cX8_of 150 = .ok (.getfield 47, 3) := zdcg 10 zdT_dX8_of_134 rfl
theorem dX8_of_153 : decode cX8_of 153 = .ok (.getfield 173, 3) := zdcg 11 zdT_dX8_of_134 rfl
theorem dX8_of_156 : decode cX8_of 156 = .ok (.iload_n 1, 1) := zdcg 12 zdT_dX8_of_134 rfl
theorem dX8_of_157 : decode cX8_of 157 = .ok (.iaload, 1) := zdcg 13 zdT_dX8_of_134 rfl
theorem dX8_of_158 : decode cX8_of 158 = .ok (.ireturn, 1) := zdcg 14 zdT_dX8_of_134 rfl
theorem dX8_of_159 : decode cX8_of 159 = .ok (.iconst (-1), 1) := zdcg 15 zdT_dX8_of_134 rfl
theorem dX8_of_160 : decode cX8_of 160 = .ok (.ireturn, 1) := zdcg 16 zdT_dX8_of_134 rfl
theorem zdT_dX8_core_0 : zdch cX8_core [(0, (.aload_n 0, 1)), (1, (.iload_n 1, 1)), (2, (.invokevirtual 126, 3)), (5, (.ifCond .eq 8, 3)), (8, (.iload_n 2, 1)), (9, (.iconst (-1), 1)), (10, (.if_icmp .ge 5, 3)), (13, (.iconst (-1), 1)), (14, (.ireturn, 1)), (15, (.aload_n 0, 1)), (16, (.getfield 47, 3)), (19, (.getfield 152, 3)), (22, (.astore_n 3, 1)), (23, (.iload_n 2, 1)), (24, (.iconst (-1), 1)), (25, (.if_icmp .ne 28, 3)), (28, (.aload_n 0, 1)), (29, (.getfield 40, 3)), (32, (.getfield 176, 3)), (35, (.aload_n 0, 1)), (36, (.getfield 47, 3)), (39, (.getfield 179, 3)), (42, (.aload_n 3, 1)), (43, (.getfield 156, 3)), (46, (.iload_n 1, 1))] = true := by decide +kernel
theorem dX8_core_0 : decode cX8_core 0 = .ok (.aload_n 0, 1) := zdcg 0 zdT_dX8_core_0 rfl
theorem dX8_core_1 : decode cX8_core 1 = .ok (.iload_n 1, 1) := zdcg 1 zdT_dX8_core_0 rfl
theorem dX8_core_2 : decode cX8_core 2 = .ok (.invokevirtual 126, 3) := zdcg 2 zdT_dX8_core_0 rfl
theorem dX8_core_5 : decode cX8_core 5 = .ok (.ifCond .eq 8, 3) := zdcg 3 zdT_dX8_core_0 rfl
theorem dX8_core_8 : decode cX8_core 8 = .ok (.iload_n 2, 1) := zdcg 4 zdT_dX8_core_0 rfl
theorem dX8_core_9 : decode cX8_core 9 = .ok (.iconst (-1), 1) := zdcg 5 zdT_dX8_core_0 rfl
theorem dX8_core_10 : decode cX8_core 10 = .ok (.if_icmp .ge 5, 3) := zdcg 6 zdT_dX8_core_0 rfl
theorem dX8_core_13 : decode cX8_core 13 = .ok (.iconst (-1), 1) := zdcg 7 zdT_dX8_core_0 rfl
theorem dX8_core_14 : decode cX8_core 14 = .ok (.ireturn, 1) := zdcg 8 zdT_dX8_core_0 rfl
theorem dX8_core_15 : decode cX8_core 15 = .ok (.aload_n 0, 1) := zdcg 9 zdT_dX8_core_0 rfl
theorem dX8_core_16 : decode cX8_core 16 = .ok (.getfield 47, 3) := zdcg 10 zdT_dX8_core_0 rfl
theorem dX8_core_19 : decode cX8_core 19 = .ok (.getfield 152, 3) := zdcg 11 zdT_dX8_core_0 rfl
theorem dX8_core_22 : decode cX8_core 22 = .ok (.astore_n 3, 1) := zdcg 12 zdT_dX8_core_0 rfl
theorem dX8_core_23 : decode cX8_core 23 = .ok (.iload_n 2, 1) := zdcg 13 zdT_dX8_core_0 rfl
theorem dX8_core_24 : decode cX8_core 24 = .ok (.iconst (-1), 1) := zdcg 14 zdT_dX8_core_0 rfl
theorem dX8_core_25 : decode cX8_core 25 = .ok (.if_icmp .ne 28, 3) := zdcg 15 zdT_dX8_core_0 rfl
theorem dX8_core_28 : decode cX8_core 28 = .ok (.aload_n 0, 1) := zdcg 16 zdT_dX8_core_0 rfl
theorem dX8_core_29 : decode cX8_core 29 = .ok (.getfield 40, 3) := zdcg 17 zdT_dX8_core_0 rfl
theorem dX8_core_32 : decode cX8_core 32 = .ok (.getfield 176, 3) := zdcg 18 zdT_dX8_core_0 rfl
theorem dX8_core_35 : decode cX8_core 35 = .ok (.aload_n 0, 1) := zdcg 19 zdT_dX8_core_0 rfl
theorem dX8_core_36 : decode cX8_core 36 = .ok (.getfield 47, 3) := zdcg 20 zdT_dX8_core_0 rfl
theorem dX8_core_39 : decode cX8_core 39 = .ok (.getfield 179, 3) := zdcg 21 zdT_dX8_core_0 rfl
theorem dX8_core_42 : decode cX8_core 42 = .ok (.aload_n 3, 1) := zdcg 22 zdT_dX8_core_0 rfl
theorem dX8_core_43 : decode cX8_core 43 = .ok (.getfield 156, 3) := zdcg 23 zdT_dX8_core_0 rfl
theorem dX8_core_46 : decode cX8_core 46 = .ok (.iload_n 1, 1) := zdcg 24 zdT_dX8_core_0 rfl
theorem zdT_dX8_core_47 : zdch cX8_core [(47, (.iaload, 1)), (48, (.imul, 1)), (49, (.isub, 1)), (50, (.goto 13, 3)), (53, (.aload_n 3, 1)), (54, (.getfield 182, 3)), (57, (.iload_n 1, 1)), (58, (.aaload, 1)), (59, (.iload_n 2, 1)), (60, (.invokestatic 141, 3)), (63, (.ireturn, 1))] = true := by decide +kernel
theorem dX8_core_47 : decode cX8_core 47 = .ok (.iaload, 1) := zdcg 0 zdT_dX8_core_47 rfl
theorem dX8_core_48 : decode cX8_core 48 = .ok (.imul, 1) := zdcg 1 zdT_dX8_core_47 rfl
theorem dX8_core_49 : decode cX8_core 49 = .ok (.isub, 1) := zdcg 2 zdT_dX8_core_47 rfl
theorem dX8_core_50 : decode cX8_core 50 = .ok (.goto 13, 3) := zdcg 3 zdT_dX8_core_47 rfl
theorem dX8_core_53 : decode cX8_core 53 = .ok (.aload_n 3, 1) := zdcg 4 zdT_dX8_core_47 rfl
theorem dX8_core_54 : decode cX8_core 54 = .ok (.getfield 182, 3) := zdcg 5 zdT_dX8_core_47 rfl
theorem dX8_core_57 : decode cX8_core 57 = .ok (.iload_n 1, 1) := zdcg 6 zdT_dX8_core_47 rfl
theorem dX8_core_58 : decode cX8_core 58 = .ok (.aaload, 1) := zdcg 7 zdT_dX8_core_47 rfl
theorem dX8_core_59 : decode cX8_core 59 = .ok (.iload_n 2, 1) := zdcg 8 zdT_dX8_core_47 rfl
theorem dX8_core_60 : decode cX8_core 60 = .ok (.invokestatic 141, 3) := zdcg 9 zdT_dX8_core_47 rfl
theorem dX8_core_63 : decode cX8_core 63 = .ok (.ireturn, 1) := zdcg 10 zdT_dX8_core_47 rfl
theorem zdT_dX8_hook_0 : zdch cX8_hook [(0, (.aload_n 0, 1)), (1, (.iload_n 1, 1)), (2, (.invokevirtual 126, 3)), (5, (.ifCond .eq 20, 3)), (8, (.aload_n 0, 1)), (9, (.getfield 40, 3)), (12, (.getfield 129, 3)), (15, (.iload_n 1, 1)), (16, (.aaload, 1)), (17, (.iload_n 2, 1)), (18, (.iload_n 3, 1)), (19, (.invokevirtual 186, 3)), (22, (.ifCond .ne 5, 3)), (25, (.iconst (-1), 1)), (26, (.ireturn, 1)), (27, (.aload_n 0, 1)), (28, (.getfield 40, 3)), (31, (.getfield 129, 3)), (34, (.iload_n 1, 1)), (35, (.aaload, 1)), (36, (.iload_n 2, 1)), (37, (.iload_n 3, 1)), (38, (.invokevirtual 190, 3)), (41, (.ireturn, 1))] = true := by decide +kernel
theorem dX8_hook_0 : decode cX8_hook 0 = .ok (.aload_n 0, 1) := zdcg 0 zdT_dX8_hook_0 rfl
theorem dX8_hook_1 : decode cX8_hook 1 = .ok (.iload_n 1, 1) := zdcg 1 zdT_dX8_hook_0 rfl
theorem dX8_hook_2 : decode cX8_hook 2 = .ok (.invokevirtual 126, 3) := zdcg 2 zdT_dX8_hook_0 rfl
theorem dX8_hook_5 : decode cX8_hook 5 = .ok (.ifCond .eq 20, 3) := zdcg 3 zdT_dX8_hook_0 rfl
theorem dX8_hook_8 : decode cX8_hook 8 = .ok (.aload_n 0, 1) := zdcg 4 zdT_dX8_hook_0 rfl
theorem dX8_hook_9 : decode cX8_hook 9 = .ok (.getfield 40, 3) := zdcg 5 zdT_dX8_hook_0 rfl
theorem dX8_hook_12 : decode cX8_hook 12 = .ok (.getfield 129, 3) := zdcg 6 zdT_dX8_hook_0 rfl
theorem dX8_hook_15 : decode cX8_hook 15 = .ok (.iload_n 1, 1) := zdcg 7 zdT_dX8_hook_0 rfl
theorem dX8_hook_16 : decode cX8_hook 16 = .ok (.aaload, 1) := zdcg 8 zdT_dX8_hook_0 rfl
theorem dX8_hook_17 : decode cX8_hook 17 = .ok (.iload_n 2, 1) := zdcg 9 zdT_dX8_hook_0 rfl
theorem dX8_hook_18 : decode cX8_hook 18 = .ok (.iload_n 3, 1) := zdcg 10 zdT_dX8_hook_0 rfl
theorem dX8_hook_19 : decode cX8_hook 19 = .ok (.invokevirtual 186, 3) := zdcg 11 zdT_dX8_hook_0 rfl
theorem dX8_hook_22 : decode cX8_hook 22 = .ok (.ifCond .ne 5, 3) := zdcg 12 zdT_dX8_hook_0 rfl
theorem dX8_hook_25 : decode cX8_hook 25 = .ok (.iconst (-1), 1) := zdcg 13 zdT_dX8_hook_0 rfl
theorem dX8_hook_26 : decode cX8_hook 26 = .ok (.ireturn, 1) := zdcg 14 zdT_dX8_hook_0 rfl
theorem dX8_hook_27 : decode cX8_hook 27 = .ok (.aload_n 0, 1) := zdcg 15 zdT_dX8_hook_0 rfl
theorem dX8_hook_28 : decode cX8_hook 28 = .ok (.getfield 40, 3) := zdcg 16 zdT_dX8_hook_0 rfl
theorem dX8_hook_31 : decode cX8_hook 31 = .ok (.getfield 129, 3) := zdcg 17 zdT_dX8_hook_0 rfl
theorem dX8_hook_34 : decode cX8_hook 34 = .ok (.iload_n 1, 1) := zdcg 18 zdT_dX8_hook_0 rfl
theorem dX8_hook_35 : decode cX8_hook 35 = .ok (.aaload, 1) := zdcg 19 zdT_dX8_hook_0 rfl
theorem dX8_hook_36 : decode cX8_hook 36 = .ok (.iload_n 2, 1) := zdcg 20 zdT_dX8_hook_0 rfl
theorem dX8_hook_37 : decode cX8_hook 37 = .ok (.iload_n 3, 1) := zdcg 21 zdT_dX8_hook_0 rfl
theorem dX8_hook_38 : decode cX8_hook 38 = .ok (.invokevirtual 190, 3) := zdcg 22 zdT_dX8_hook_0 rfl
theorem dX8_hook_41 : decode cX8_hook 41 = .ok (.ireturn, 1) := zdcg 23 zdT_dX8_hook_0 rfl
theorem zdT_dX8_classOf_0 : zdch cX8_classOf [(0, (.aload_n 0, 1)), (1, (.iload_n 1, 1)), (2, (.invokevirtual 126, 3)), (5, (.ifCond .ne 6, 3)), (8, (.bipush (-2), 2)), (10, (.ireturn, 1)), (11, (.iload_n 2, 1)), (12, (.tableswitch 89 0 4 #[36, 46, 56, 69, 79], 36)), (48, (.aload_n 0, 1)), (49, (.getfield 40, 3)), (52, (.getfield 193, 3)), (55, (.iload_n 1, 1)), (56, (.iaload, 1)), (57, (.ireturn, 1)), (58, (.aload_n 0, 1)), (59, (.getfield 40, 3)), (62, (.getfield 196, 3)), (65, (.iload_n 1, 1)), (66, (.iaload, 1)), (67, (.ireturn, 1)), (68, (.aload_n 0, 1)), (69, (.getfield 47, 3)), (72, (.getfield 199, 3)), (75, (.iload_n 1, 1)), (76, (.baload, 1))] = true := by decide +kernel
theorem dX8_classOf_0 : decode cX8_classOf 0 = .ok (.aload_n 0, 1) := zdcg 0 zdT_dX8_classOf_0 rfl
theorem dX8_classOf_1 : decode cX8_classOf 1 = .ok (.iload_n 1, 1) := zdcg 1 zdT_dX8_classOf_0 rfl
theorem dX8_classOf_2 : decode cX8_classOf 2 = .ok (.invokevirtual 126, 3) := zdcg 2 zdT_dX8_classOf_0 rfl
theorem dX8_classOf_5 : decode cX8_classOf 5 = .ok (.ifCond .ne 6, 3) := zdcg 3 zdT_dX8_classOf_0 rfl
theorem dX8_classOf_8 : decode cX8_classOf 8 = .ok (.bipush (-2), 2) := zdcg 4 zdT_dX8_classOf_0 rfl
theorem dX8_classOf_10 : decode cX8_classOf 10 = .ok (.ireturn, 1) := zdcg 5 zdT_dX8_classOf_0 rfl
theorem dX8_classOf_11 : decode cX8_classOf 11 = .ok (.iload_n 2, 1) := zdcg 6 zdT_dX8_classOf_0 rfl
theorem dX8_classOf_12 : decode cX8_classOf 12 = .ok (.tableswitch 89 0 4 #[36, 46, 56, 69, 79], 36) := zdcg 7 zdT_dX8_classOf_0 rfl
theorem dX8_classOf_48 : decode cX8_classOf 48 = .ok (.aload_n 0, 1) := zdcg 8 zdT_dX8_classOf_0 rfl
theorem dX8_classOf_49 : decode cX8_classOf 49 = .ok (.getfield 40, 3) := zdcg 9 zdT_dX8_classOf_0 rfl
theorem dX8_classOf_52 : decode cX8_classOf 52 = .ok (.getfield 193, 3) := zdcg 10 zdT_dX8_classOf_0 rfl
theorem dX8_classOf_55 : decode cX8_classOf 55 = .ok (.iload_n 1, 1) := zdcg 11 zdT_dX8_classOf_0 rfl
theorem dX8_classOf_56 : decode cX8_classOf 56 = .ok (.iaload, 1) := zdcg 12 zdT_dX8_classOf_0 rfl
theorem dX8_classOf_57 : decode cX8_classOf 57 = .ok (.ireturn, 1) := zdcg 13 zdT_dX8_classOf_0 rfl
theorem dX8_classOf_58 : decode cX8_classOf 58 = .ok (.aload_n 0, 1) := zdcg 14 zdT_dX8_classOf_0 rfl
theorem dX8_classOf_59 : decode cX8_classOf 59 = .ok (.getfield 40, 3) := zdcg 15 zdT_dX8_classOf_0 rfl
theorem dX8_classOf_62 : decode cX8_classOf 62 = .ok (.getfield 196, 3) := zdcg 16 zdT_dX8_classOf_0 rfl
theorem dX8_classOf_65 : decode cX8_classOf 65 = .ok (.iload_n 1, 1) := zdcg 17 zdT_dX8_classOf_0 rfl
theorem dX8_classOf_66 : decode cX8_classOf 66 = .ok (.iaload, 1) := zdcg 18 zdT_dX8_classOf_0 rfl
theorem dX8_classOf_67 : decode cX8_classOf 67 = .ok (.ireturn, 1) := zdcg 19 zdT_dX8_classOf_0 rfl
theorem dX8_classOf_68 : decode cX8_classOf 68 = .ok (.aload_n 0, 1) := zdcg 20 zdT_dX8_classOf_0 rfl
theorem dX8_classOf_69 : decode cX8_classOf 69 = .ok (.getfield 47, 3) := zdcg 21 zdT_dX8_classOf_0 rfl
theorem dX8_classOf_72 : decode cX8_classOf 72 = .ok (.getfield 199, 3) := zdcg 22 zdT_dX8_classOf_0 rfl
theorem dX8_classOf_75 : decode cX8_classOf 75 = .ok (.iload_n 1, 1) := zdcg 23 zdT_dX8_classOf_0 rfl
theorem dX8_classOf_76 : decode cX8_classOf 76 = .ok (.baload, 1) := zdcg 24 zdT_dX8_classOf_0 rfl
theorem zdT_dX8_classOf_77 : zdch cX8_classOf [(77, (.invokestatic 148, 3)), (80, (.ireturn, 1)), (81, (.aload_n 0, 1)), (82, (.getfield 40, 3)), (85, (.getfield 203, 3)), (88, (.iload_n 1, 1)), (89, (.iaload, 1)), (90, (.ireturn, 1)), (91, (.aload_n 0, 1)), (92, (.getfield 40, 3)), (95, (.getfield 206, 3)), (98, (.iload_n 1, 1)), (99, (.iaload, 1)), (100, (.ireturn, 1)), (101, (.bipush (-2), 2)), (103, (.ireturn, 1))] = true := by decide +kernel
theorem dX8_classOf_77 : decode cX8_classOf 77 = .ok (.invokestatic 148, 3) := zdcg 0 zdT_dX8_classOf_77 rfl
theorem dX8_classOf_80 : decode cX8_classOf 80 = .ok (.ireturn, 1) := zdcg 1 zdT_dX8_classOf_77 rfl
theorem dX8_classOf_81 : decode cX8_classOf 81 = .ok (.aload_n 0, 1) := zdcg 2 zdT_dX8_classOf_77 rfl
theorem dX8_classOf_82 : decode cX8_classOf 82 = .ok (.getfield 40, 3) := zdcg 3 zdT_dX8_classOf_77 rfl
theorem dX8_classOf_85 : decode cX8_classOf 85 = .ok (.getfield 203, 3) := zdcg 4 zdT_dX8_classOf_77 rfl
theorem dX8_classOf_88 : decode cX8_classOf 88 = .ok (.iload_n 1, 1) := zdcg 5 zdT_dX8_classOf_77 rfl
theorem dX8_classOf_89 : decode cX8_classOf 89 = .ok (.iaload, 1) := zdcg 6 zdT_dX8_classOf_77 rfl
theorem dX8_classOf_90 : decode cX8_classOf 90 = .ok (.ireturn, 1) := zdcg 7 zdT_dX8_classOf_77 rfl
theorem dX8_classOf_91 : decode cX8_classOf 91 = .ok (.aload_n 0, 1) := zdcg 8 zdT_dX8_classOf_77 rfl
theorem dX8_classOf_92 : decode cX8_classOf 92 = .ok (.getfield 40, 3) := zdcg 9 zdT_dX8_classOf_77 rfl
theorem dX8_classOf_95 : decode cX8_classOf 95 = .ok (.getfield 206, 3) := zdcg 10 zdT_dX8_classOf_77 rfl
theorem dX8_classOf_98 : decode cX8_classOf 98 = .ok (.iload_n 1, 1) := zdcg 11 zdT_dX8_classOf_77 rfl
theorem dX8_classOf_99 : decode cX8_classOf 99 = .ok (.iaload, 1) := zdcg 12 zdT_dX8_classOf_77 rfl
theorem dX8_classOf_100 : decode cX8_classOf 100 = .ok (.ireturn, 1) := zdcg 13 zdT_dX8_classOf_77 rfl
theorem dX8_classOf_101 : decode cX8_classOf 101 = .ok (.bipush (-2), 2) := zdcg 14 zdT_dX8_classOf_77 rfl
theorem dX8_classOf_103 : decode cX8_classOf 103 = .ok (.ireturn, 1) := zdcg 15 zdT_dX8_classOf_77 rfl
theorem zdT_dX8_character_0 : zdch cX8_character [(0, (.aload_n 0, 1)), (1, (.iload_n 1, 1)), (2, (.invokevirtual 126, 3)), (5, (.ifCond .eq 25, 3)), (8, (.aload_n 0, 1)), (9, (.iload_n 2, 1)), (10, (.invokevirtual 126, 3)), (13, (.ifCond .eq 17, 3)), (16, (.aload_n 0, 1)), (17, (.getfield 40, 3)), (20, (.getfield 209, 3)), (23, (.iload_n 1, 1)), (24, (.aaload, 1)), (25, (.iload_n 2, 1)), (26, (.iaload, 1)), (27, (.goto 6, 3)), (30, (.sipush (-1001), 3)), (33, (.ireturn, 1))] = true := by decide +kernel
theorem dX8_character_0 : decode cX8_character 0 = .ok (.aload_n 0, 1) := zdcg 0 zdT_dX8_character_0 rfl
theorem dX8_character_1 : decode cX8_character 1 = .ok (.iload_n 1, 1) := zdcg 1 zdT_dX8_character_0 rfl
theorem dX8_character_2 : decode cX8_character 2 = .ok (.invokevirtual 126, 3) := zdcg 2 zdT_dX8_character_0 rfl
theorem dX8_character_5 : decode cX8_character 5 = .ok (.ifCond .eq 25, 3) := zdcg 3 zdT_dX8_character_0 rfl
theorem dX8_character_8 : decode cX8_character 8 = .ok (.aload_n 0, 1) := zdcg 4 zdT_dX8_character_0 rfl
theorem dX8_character_9 : decode cX8_character 9 = .ok (.iload_n 2, 1) := zdcg 5 zdT_dX8_character_0 rfl
theorem dX8_character_10 : decode cX8_character 10 = .ok (.invokevirtual 126, 3) := zdcg 6 zdT_dX8_character_0 rfl
theorem dX8_character_13 : decode cX8_character 13 = .ok (.ifCond .eq 17, 3) := zdcg 7 zdT_dX8_character_0 rfl
theorem dX8_character_16 : decode cX8_character 16 = .ok (.aload_n 0, 1) := zdcg 8 zdT_dX8_character_0 rfl
theorem dX8_character_17 : decode cX8_character 17 = .ok (.getfield 40, 3) := zdcg 9 zdT_dX8_character_0 rfl
theorem dX8_character_20 : decode cX8_character 20 = .ok (.getfield 209, 3) := zdcg 10 zdT_dX8_character_0 rfl
theorem dX8_character_23 : decode cX8_character 23 = .ok (.iload_n 1, 1) := zdcg 11 zdT_dX8_character_0 rfl
theorem dX8_character_24 : decode cX8_character 24 = .ok (.aaload, 1) := zdcg 12 zdT_dX8_character_0 rfl
theorem dX8_character_25 : decode cX8_character 25 = .ok (.iload_n 2, 1) := zdcg 13 zdT_dX8_character_0 rfl
theorem dX8_character_26 : decode cX8_character 26 = .ok (.iaload, 1) := zdcg 14 zdT_dX8_character_0 rfl
theorem dX8_character_27 : decode cX8_character 27 = .ok (.goto 6, 3) := zdcg 15 zdT_dX8_character_0 rfl
theorem dX8_character_30 : decode cX8_character 30 = .ok (.sipush (-1001), 3) := zdcg 16 zdT_dX8_character_0 rfl
theorem dX8_character_33 : decode cX8_character 33 = .ok (.ireturn, 1) := zdcg 17 zdT_dX8_character_0 rfl
theorem zdT_dX8_modular_0 : zdch cX8_modular [(0, (.aload_n 0, 1)), (1, (.iload_n 1, 1)), (2, (.invokevirtual 212, 3)), (5, (.ifCond .eq 23, 3)), (8, (.aload_n 0, 1)), (9, (.iload_n 2, 1)), (10, (.invokevirtual 126, 3)), (13, (.ifCond .eq 15, 3)), (16, (.aload_n 0, 1)), (17, (.getfield 47, 3)), (20, (.getfield 199, 3)), (23, (.iload_n 2, 1)), (24, (.baload, 1)), (25, (.ifCond .ne 7, 3)), (28, (.sipush (-1001), 3)), (31, (.ireturn, 1)), (32, (.aload_n 0, 1)), (33, (.getfield 47, 3)), (36, (.getfield 215, 3)), (39, (.iload_n 1, 1)), (40, (.aaload, 1)), (41, (.iload_n 2, 1)), (42, (.iaload, 1)), (43, (.ireturn, 1))] = true := by decide +kernel
theorem dX8_modular_0 : decode cX8_modular 0 = .ok (.aload_n 0, 1) := zdcg 0 zdT_dX8_modular_0 rfl
theorem dX8_modular_1 : decode cX8_modular 1 = .ok (.iload_n 1, 1) := zdcg 1 zdT_dX8_modular_0 rfl
theorem dX8_modular_2 : decode cX8_modular 2 = .ok (.invokevirtual 212, 3) := zdcg 2 zdT_dX8_modular_0 rfl
theorem dX8_modular_5 : decode cX8_modular 5 = .ok (.ifCond .eq 23, 3) := zdcg 3 zdT_dX8_modular_0 rfl
theorem dX8_modular_8 : decode cX8_modular 8 = .ok (.aload_n 0, 1) := zdcg 4 zdT_dX8_modular_0 rfl
theorem dX8_modular_9 : decode cX8_modular 9 = .ok (.iload_n 2, 1) := zdcg 5 zdT_dX8_modular_0 rfl
theorem dX8_modular_10 : decode cX8_modular 10 = .ok (.invokevirtual 126, 3) := zdcg 6 zdT_dX8_modular_0 rfl
theorem dX8_modular_13 : decode cX8_modular 13 = .ok (.ifCond .eq 15, 3) := zdcg 7 zdT_dX8_modular_0 rfl
theorem dX8_modular_16 : decode cX8_modular 16 = .ok (.aload_n 0, 1) := zdcg 8 zdT_dX8_modular_0 rfl
theorem dX8_modular_17 : decode cX8_modular 17 = .ok (.getfield 47, 3) := zdcg 9 zdT_dX8_modular_0 rfl
theorem dX8_modular_20 : decode cX8_modular 20 = .ok (.getfield 199, 3) := zdcg 10 zdT_dX8_modular_0 rfl
theorem dX8_modular_23 : decode cX8_modular 23 = .ok (.iload_n 2, 1) := zdcg 11 zdT_dX8_modular_0 rfl
theorem dX8_modular_24 : decode cX8_modular 24 = .ok (.baload, 1) := zdcg 12 zdT_dX8_modular_0 rfl
theorem dX8_modular_25 : decode cX8_modular 25 = .ok (.ifCond .ne 7, 3) := zdcg 13 zdT_dX8_modular_0 rfl
theorem dX8_modular_28 : decode cX8_modular 28 = .ok (.sipush (-1001), 3) := zdcg 14 zdT_dX8_modular_0 rfl
theorem dX8_modular_31 : decode cX8_modular 31 = .ok (.ireturn, 1) := zdcg 15 zdT_dX8_modular_0 rfl
theorem dX8_modular_32 : decode cX8_modular 32 = .ok (.aload_n 0, 1) := zdcg 16 zdT_dX8_modular_0 rfl
theorem dX8_modular_33 : decode cX8_modular 33 = .ok (.getfield 47, 3) := zdcg 17 zdT_dX8_modular_0 rfl
theorem dX8_modular_36 : decode cX8_modular 36 = .ok (.getfield 215, 3) := zdcg 18 zdT_dX8_modular_0 rfl
theorem dX8_modular_39 : decode cX8_modular 39 = .ok (.iload_n 1, 1) := zdcg 19 zdT_dX8_modular_0 rfl
theorem dX8_modular_40 : decode cX8_modular 40 = .ok (.aaload, 1) := zdcg 20 zdT_dX8_modular_0 rfl
theorem dX8_modular_41 : decode cX8_modular 41 = .ok (.iload_n 2, 1) := zdcg 21 zdT_dX8_modular_0 rfl
theorem dX8_modular_42 : decode cX8_modular 42 = .ok (.iaload, 1) := zdcg 22 zdT_dX8_modular_0 rfl
theorem dX8_modular_43 : decode cX8_modular 43 = .ok (.ireturn, 1) := zdcg 23 zdT_dX8_modular_0 rfl
theorem zdT_dX8_projective_0 : zdch cX8_projective [(0, (.aload_n 0, 1)), (1, (.iload_n 1, 1)), (2, (.invokevirtual 212, 3)), (5, (.ifCond .eq 25, 3)), (8, (.aload_n 0, 1)), (9, (.iload_n 2, 1)), (10, (.invokevirtual 126, 3)), (13, (.ifCond .eq 17, 3)), (16, (.aload_n 0, 1)), (17, (.getfield 47, 3)), (20, (.getfield 218, 3)), (23, (.iload_n 1, 1)), (24, (.aaload, 1)), (25, (.iload_n 2, 1)), (26, (.iaload, 1)), (27, (.goto 6, 3)), (30, (.sipush (-1001), 3)), (33, (.ireturn, 1))] = true := by decide +kernel
theorem dX8_projective_0 : decode cX8_projective 0 = .ok (.aload_n 0, 1) := zdcg 0 zdT_dX8_projective_0 rfl
theorem dX8_projective_1 : decode cX8_projective 1 = .ok (.iload_n 1, 1) := zdcg 1 zdT_dX8_projective_0 rfl
theorem dX8_projective_2 : decode cX8_projective 2 = .ok (.invokevirtual 212, 3) := zdcg 2 zdT_dX8_projective_0 rfl
theorem dX8_projective_5 : decode cX8_projective 5 = .ok (.ifCond .eq 25, 3) := zdcg 3 zdT_dX8_projective_0 rfl
theorem dX8_projective_8 : decode cX8_projective 8 = .ok (.aload_n 0, 1) := zdcg 4 zdT_dX8_projective_0 rfl
theorem dX8_projective_9 : decode cX8_projective 9 = .ok (.iload_n 2, 1) := zdcg 5 zdT_dX8_projective_0 rfl
theorem dX8_projective_10 : decode cX8_projective 10 = .ok (.invokevirtual 126, 3) := zdcg 6 zdT_dX8_projective_0 rfl
theorem dX8_projective_13 : decode cX8_projective 13 = .ok (.ifCond .eq 17, 3) := zdcg 7 zdT_dX8_projective_0 rfl
theorem dX8_projective_16 : decode cX8_projective 16 = .ok (.aload_n 0, 1) := zdcg 8 zdT_dX8_projective_0 rfl
theorem dX8_projective_17 : decode cX8_projective 17 = .ok (.getfield 47, 3) := zdcg 9 zdT_dX8_projective_0 rfl
theorem dX8_projective_20 : decode cX8_projective 20 = .ok (.getfield 218, 3) := zdcg 10 zdT_dX8_projective_0 rfl
theorem dX8_projective_23 : decode cX8_projective 23 = .ok (.iload_n 1, 1) := zdcg 11 zdT_dX8_projective_0 rfl
theorem dX8_projective_24 : decode cX8_projective 24 = .ok (.aaload, 1) := zdcg 12 zdT_dX8_projective_0 rfl
theorem dX8_projective_25 : decode cX8_projective 25 = .ok (.iload_n 2, 1) := zdcg 13 zdT_dX8_projective_0 rfl
theorem dX8_projective_26 : decode cX8_projective 26 = .ok (.iaload, 1) := zdcg 14 zdT_dX8_projective_0 rfl
theorem dX8_projective_27 : decode cX8_projective 27 = .ok (.goto 6, 3) := zdcg 15 zdT_dX8_projective_0 rfl
theorem dX8_projective_30 : decode cX8_projective 30 = .ok (.sipush (-1001), 3) := zdcg 16 zdT_dX8_projective_0 rfl
theorem dX8_projective_33 : decode cX8_projective 33 = .ok (.ireturn, 1) := zdcg 17 zdT_dX8_projective_0 rfl
theorem zdT_dX8_decomposition_0 : zdch cX8_decomposition [(0, (.aload_n 0, 1)), (1, (.iload_n 1, 1)), (2, (.invokevirtual 126, 3)), (5, (.ifCond .eq 25, 3)), (8, (.aload_n 0, 1)), (9, (.iload_n 2, 1)), (10, (.invokevirtual 212, 3)), (13, (.ifCond .eq 17, 3)), (16, (.aload_n 0, 1)), (17, (.getfield 47, 3)), (20, (.getfield 221, 3)), (23, (.iload_n 1, 1)), (24, (.aaload, 1)), (25, (.iload_n 2, 1)), (26, (.iaload, 1)), (27, (.goto 4, 3)), (30, (.iconst (-1), 1)), (31, (.ireturn, 1))] = true := by decide +kernel
theorem dX8_decomposition_0 : decode cX8_decomposition 0 = .ok (.aload_n 0, 1) := zdcg 0 zdT_dX8_decomposition_0 rfl
theorem dX8_decomposition_1 : decode cX8_decomposition 1 = .ok (.iload_n 1, 1) := zdcg 1 zdT_dX8_decomposition_0 rfl
theorem dX8_decomposition_2 : decode cX8_decomposition 2 = .ok (.invokevirtual 126, 3) := zdcg 2 zdT_dX8_decomposition_0 rfl
theorem dX8_decomposition_5 : decode cX8_decomposition 5 = .ok (.ifCond .eq 25, 3) := zdcg 3 zdT_dX8_decomposition_0 rfl
theorem dX8_decomposition_8 : decode cX8_decomposition 8 = .ok (.aload_n 0, 1) := zdcg 4 zdT_dX8_decomposition_0 rfl
theorem dX8_decomposition_9 : decode cX8_decomposition 9 = .ok (.iload_n 2, 1) := zdcg 5 zdT_dX8_decomposition_0 rfl
theorem dX8_decomposition_10 : decode cX8_decomposition 10 = .ok (.invokevirtual 212, 3) := zdcg 6 zdT_dX8_decomposition_0 rfl
theorem dX8_decomposition_13 : decode cX8_decomposition 13 = .ok (.ifCond .eq 17, 3) := zdcg 7 zdT_dX8_decomposition_0 rfl
theorem dX8_decomposition_16 : decode cX8_decomposition 16 = .ok (.aload_n 0, 1) := zdcg 8 zdT_dX8_decomposition_0 rfl
theorem dX8_decomposition_17 : decode cX8_decomposition 17 = .ok (.getfield 47, 3) := zdcg 9 zdT_dX8_decomposition_0 rfl
theorem dX8_decomposition_20 : decode cX8_decomposition 20 = .ok (.getfield 221, 3) := zdcg 10 zdT_dX8_decomposition_0 rfl
theorem dX8_decomposition_23 : decode cX8_decomposition 23 = .ok (.iload_n 1, 1) := zdcg 11 zdT_dX8_decomposition_0 rfl
theorem dX8_decomposition_24 : decode cX8_decomposition 24 = .ok (.aaload, 1) := zdcg 12 zdT_dX8_decomposition_0 rfl
theorem dX8_decomposition_25 : decode cX8_decomposition 25 = .ok (.iload_n 2, 1) := zdcg 13 zdT_dX8_decomposition_0 rfl
theorem dX8_decomposition_26 : decode cX8_decomposition 26 = .ok (.iaload, 1) := zdcg 14 zdT_dX8_decomposition_0 rfl
theorem dX8_decomposition_27 : decode cX8_decomposition 27 = .ok (.goto 4, 3) := zdcg 15 zdT_dX8_decomposition_0 rfl
theorem dX8_decomposition_30 : decode cX8_decomposition 30 = .ok (.iconst (-1), 1) := zdcg 16 zdT_dX8_decomposition_0 rfl
theorem dX8_decomposition_31 : decode cX8_decomposition 31 = .ok (.ireturn, 1) := zdcg 17 zdT_dX8_decomposition_0 rfl
theorem zdT_dX8_cartan_0 : zdch cX8_cartan [(0, (.aload_n 0, 1)), (1, (.iload_n 1, 1)), (2, (.invokevirtual 212, 3)), (5, (.ifCond .eq 25, 3)), (8, (.aload_n 0, 1)), (9, (.iload_n 2, 1)), (10, (.invokevirtual 212, 3)), (13, (.ifCond .eq 17, 3)), (16, (.aload_n 0, 1)), (17, (.getfield 47, 3)), (20, (.getfield 224, 3)), (23, (.iload_n 1, 1)), (24, (.aaload, 1)), (25, (.iload_n 2, 1)), (26, (.iaload, 1)), (27, (.goto 4, 3)), (30, (.iconst (-1), 1)), (31, (.ireturn, 1))] = true := by decide +kernel
theorem dX8_cartan_0 : decode cX8_cartan 0 = .ok (.aload_n 0, 1) := zdcg 0 zdT_dX8_cartan_0 rfl
theorem dX8_cartan_1 : decode cX8_cartan 1 = .ok (.iload_n 1, 1) := zdcg 1 zdT_dX8_cartan_0 rfl
theorem dX8_cartan_2 : decode cX8_cartan 2 = .ok (.invokevirtual 212, 3) := zdcg 2 zdT_dX8_cartan_0 rfl
theorem dX8_cartan_5 : decode cX8_cartan 5 = .ok (.ifCond .eq 25, 3) := zdcg 3 zdT_dX8_cartan_0 rfl
theorem dX8_cartan_8 : decode cX8_cartan 8 = .ok (.aload_n 0, 1) := zdcg 4 zdT_dX8_cartan_0 rfl
theorem dX8_cartan_9 : decode cX8_cartan 9 = .ok (.iload_n 2, 1) := zdcg 5 zdT_dX8_cartan_0 rfl
theorem dX8_cartan_10 : decode cX8_cartan 10 = .ok (.invokevirtual 212, 3) := zdcg 6 zdT_dX8_cartan_0 rfl
theorem dX8_cartan_13 : decode cX8_cartan 13 = .ok (.ifCond .eq 17, 3) := zdcg 7 zdT_dX8_cartan_0 rfl
theorem dX8_cartan_16 : decode cX8_cartan 16 = .ok (.aload_n 0, 1) := zdcg 8 zdT_dX8_cartan_0 rfl
theorem dX8_cartan_17 : decode cX8_cartan 17 = .ok (.getfield 47, 3) := zdcg 9 zdT_dX8_cartan_0 rfl
theorem dX8_cartan_20 : decode cX8_cartan 20 = .ok (.getfield 224, 3) := zdcg 10 zdT_dX8_cartan_0 rfl
theorem dX8_cartan_23 : decode cX8_cartan 23 = .ok (.iload_n 1, 1) := zdcg 11 zdT_dX8_cartan_0 rfl
theorem dX8_cartan_24 : decode cX8_cartan 24 = .ok (.aaload, 1) := zdcg 12 zdT_dX8_cartan_0 rfl
theorem dX8_cartan_25 : decode cX8_cartan 25 = .ok (.iload_n 2, 1) := zdcg 13 zdT_dX8_cartan_0 rfl
theorem dX8_cartan_26 : decode cX8_cartan 26 = .ok (.iaload, 1) := zdcg 14 zdT_dX8_cartan_0 rfl
theorem dX8_cartan_27 : decode cX8_cartan 27 = .ok (.goto 4, 3) := zdcg 15 zdT_dX8_cartan_0 rfl
theorem dX8_cartan_30 : decode cX8_cartan 30 = .ok (.iconst (-1), 1) := zdcg 16 zdT_dX8_cartan_0 rfl
theorem dX8_cartan_31 : decode cX8_cartan 31 = .ok (.ireturn, 1) := zdcg 17 zdT_dX8_cartan_0 rfl
theorem zdT_dX8_tableau_0 : zdch cX8_tableau [(0, (.aload_n 0, 1)), (1, (.iload_n 1, 1)), (2, (.invokevirtual 126, 3)), (5, (.ifCond .ne 5, 3)), (8, (.iconst (-1), 1)), (9, (.ireturn, 1)), (10, (.aload_n 0, 1)), (11, (.getfield 40, 3)), (14, (.getfield 129, 3)), (17, (.iload_n 1, 1)), (18, (.aaload, 1)), (19, (.astore 5, 2)), (21, (.iload_n 3, 1)), (22, (.iconst (-1), 1)), (23, (.if_icmp .ne 9, 3)), (26, (.aload 5, 2)), (28, (.getfield 164, 3)), (31, (.ireturn, 1)), (32, (.iload_n 2, 1)), (33, (.ifCond .lt 23, 3)), (36, (.iload_n 2, 1)), (37, (.aload 5, 2)), (39, (.getfield 164, 3)), (42, (.if_icmp .ge 14, 3)), (45, (.aload 5, 2))] = true := by decide +kernel
theorem dX8_tableau_0 : decode cX8_tableau 0 = .ok (.aload_n 0, 1) := zdcg 0 zdT_dX8_tableau_0 rfl
theorem dX8_tableau_1 : decode cX8_tableau 1 = .ok (.iload_n 1, 1) := zdcg 1 zdT_dX8_tableau_0 rfl
theorem dX8_tableau_2 : decode cX8_tableau 2 = .ok (.invokevirtual 126, 3) := zdcg 2 zdT_dX8_tableau_0 rfl
theorem dX8_tableau_5 : decode cX8_tableau 5 = .ok (.ifCond .ne 5, 3) := zdcg 3 zdT_dX8_tableau_0 rfl
theorem dX8_tableau_8 : decode cX8_tableau 8 = .ok (.iconst (-1), 1) := zdcg 4 zdT_dX8_tableau_0 rfl
theorem dX8_tableau_9 : decode cX8_tableau 9 = .ok (.ireturn, 1) := zdcg 5 zdT_dX8_tableau_0 rfl
theorem dX8_tableau_10 : decode cX8_tableau 10 = .ok (.aload_n 0, 1) := zdcg 6 zdT_dX8_tableau_0 rfl
theorem dX8_tableau_11 : decode cX8_tableau 11 = .ok (.getfield 40, 3) := zdcg 7 zdT_dX8_tableau_0 rfl
theorem dX8_tableau_14 : decode cX8_tableau 14 = .ok (.getfield 129, 3) := zdcg 8 zdT_dX8_tableau_0 rfl
theorem dX8_tableau_17 : decode cX8_tableau 17 = .ok (.iload_n 1, 1) := zdcg 9 zdT_dX8_tableau_0 rfl
theorem dX8_tableau_18 : decode cX8_tableau 18 = .ok (.aaload, 1) := zdcg 10 zdT_dX8_tableau_0 rfl
theorem dX8_tableau_19 : decode cX8_tableau 19 = .ok (.astore 5, 2) := zdcg 11 zdT_dX8_tableau_0 rfl
theorem dX8_tableau_21 : decode cX8_tableau 21 = .ok (.iload_n 3, 1) := zdcg 12 zdT_dX8_tableau_0 rfl
theorem dX8_tableau_22 : decode cX8_tableau 22 = .ok (.iconst (-1), 1) := zdcg 13 zdT_dX8_tableau_0 rfl
theorem dX8_tableau_23 : decode cX8_tableau 23 = .ok (.if_icmp .ne 9, 3) := zdcg 14 zdT_dX8_tableau_0 rfl
theorem dX8_tableau_26 : decode cX8_tableau 26 = .ok (.aload 5, 2) := zdcg 15 zdT_dX8_tableau_0 rfl
theorem dX8_tableau_28 : decode cX8_tableau 28 = .ok (.getfield 164, 3) := zdcg 16 zdT_dX8_tableau_0 rfl
theorem dX8_tableau_31 : decode cX8_tableau 31 = .ok (.ireturn, 1) := zdcg 17 zdT_dX8_tableau_0 rfl
theorem dX8_tableau_32 : decode cX8_tableau 32 = .ok (.iload_n 2, 1) := zdcg 18 zdT_dX8_tableau_0 rfl
theorem dX8_tableau_33 : decode cX8_tableau 33 = .ok (.ifCond .lt 23, 3) := zdcg 19 zdT_dX8_tableau_0 rfl
theorem dX8_tableau_36 : decode cX8_tableau 36 = .ok (.iload_n 2, 1) := zdcg 20 zdT_dX8_tableau_0 rfl
theorem dX8_tableau_37 : decode cX8_tableau 37 = .ok (.aload 5, 2) := zdcg 21 zdT_dX8_tableau_0 rfl
theorem dX8_tableau_39 : decode cX8_tableau 39 = .ok (.getfield 164, 3) := zdcg 22 zdT_dX8_tableau_0 rfl
theorem dX8_tableau_42 : decode cX8_tableau 42 = .ok (.if_icmp .ge 14, 3) := zdcg 23 zdT_dX8_tableau_0 rfl
theorem dX8_tableau_45 : decode cX8_tableau 45 = .ok (.aload 5, 2) := zdcg 24 zdT_dX8_tableau_0 rfl
theorem zdT_dX8_tableau_47 : zdch cX8_tableau [(47, (.iload_n 3, 1)), (48, (.iload 4, 2)), (50, (.invokevirtual 186, 3)), (53, (.ifCond .ne 5, 3)), (56, (.iconst (-1), 1)), (57, (.ireturn, 1)), (58, (.aload 5, 2)), (60, (.getfield 227, 3)), (63, (.iload_n 2, 1)), (64, (.aaload, 1)), (65, (.aload 5, 2)), (67, (.getfield 230, 3)), (70, (.iload_n 3, 1)), (71, (.iaload, 1)), (72, (.iload 4, 2)), (74, (.iadd, 1)), (75, (.iaload, 1)), (76, (.ireturn, 1))] = true := by decide +kernel
theorem dX8_tableau_47 : decode cX8_tableau 47 = .ok (.iload_n 3, 1) := zdcg 0 zdT_dX8_tableau_47 rfl
theorem dX8_tableau_48 : decode cX8_tableau 48 = .ok (.iload 4, 2) := zdcg 1 zdT_dX8_tableau_47 rfl
theorem dX8_tableau_50 : decode cX8_tableau 50 = .ok (.invokevirtual 186, 3) := zdcg 2 zdT_dX8_tableau_47 rfl
theorem dX8_tableau_53 : decode cX8_tableau 53 = .ok (.ifCond .ne 5, 3) := zdcg 3 zdT_dX8_tableau_47 rfl
theorem dX8_tableau_56 : decode cX8_tableau 56 = .ok (.iconst (-1), 1) := zdcg 4 zdT_dX8_tableau_47 rfl
theorem dX8_tableau_57 : decode cX8_tableau 57 = .ok (.ireturn, 1) := zdcg 5 zdT_dX8_tableau_47 rfl
theorem dX8_tableau_58 : decode cX8_tableau 58 = .ok (.aload 5, 2) := zdcg 6 zdT_dX8_tableau_47 rfl
theorem dX8_tableau_60 : decode cX8_tableau 60 = .ok (.getfield 227, 3) := zdcg 7 zdT_dX8_tableau_47 rfl
theorem dX8_tableau_63 : decode cX8_tableau 63 = .ok (.iload_n 2, 1) := zdcg 8 zdT_dX8_tableau_47 rfl
theorem dX8_tableau_64 : decode cX8_tableau 64 = .ok (.aaload, 1) := zdcg 9 zdT_dX8_tableau_47 rfl
theorem dX8_tableau_65 : decode cX8_tableau 65 = .ok (.aload 5, 2) := zdcg 10 zdT_dX8_tableau_47 rfl
theorem dX8_tableau_67 : decode cX8_tableau 67 = .ok (.getfield 230, 3) := zdcg 11 zdT_dX8_tableau_47 rfl
theorem dX8_tableau_70 : decode cX8_tableau 70 = .ok (.iload_n 3, 1) := zdcg 12 zdT_dX8_tableau_47 rfl
theorem dX8_tableau_71 : decode cX8_tableau 71 = .ok (.iaload, 1) := zdcg 13 zdT_dX8_tableau_47 rfl
theorem dX8_tableau_72 : decode cX8_tableau 72 = .ok (.iload 4, 2) := zdcg 14 zdT_dX8_tableau_47 rfl
theorem dX8_tableau_74 : decode cX8_tableau 74 = .ok (.iadd, 1) := zdcg 15 zdT_dX8_tableau_47 rfl
theorem dX8_tableau_75 : decode cX8_tableau 75 = .ok (.iaload, 1) := zdcg 16 zdT_dX8_tableau_47 rfl
theorem dX8_tableau_76 : decode cX8_tableau 76 = .ok (.ireturn, 1) := zdcg 17 zdT_dX8_tableau_47 rfl
theorem zdT_dX8_gram_0 : zdch cX8_gram [(0, (.aload_n 0, 1)), (1, (.iload_n 1, 1)), (2, (.invokevirtual 126, 3)), (5, (.ifCond .ne 7, 3)), (8, (.sipush (-1001), 3)), (11, (.ireturn, 1)), (12, (.aload_n 0, 1)), (13, (.getfield 40, 3)), (16, (.getfield 129, 3)), (19, (.iload_n 1, 1)), (20, (.aaload, 1)), (21, (.astore 4, 2)), (23, (.iload_n 2, 1)), (24, (.ifCond .lt 25, 3)), (27, (.iload_n 2, 1)), (28, (.aload 4, 2)), (30, (.getfield 164, 3)), (33, (.if_icmp .ge 16, 3)), (36, (.iload_n 3, 1)), (37, (.ifCond .lt 12, 3)), (40, (.iload_n 3, 1)), (41, (.aload 4, 2)), (43, (.getfield 164, 3)), (46, (.if_icmp .lt 7, 3)), (49, (.sipush (-1001), 3))] = true := by decide +kernel
theorem dX8_gram_0 : decode cX8_gram 0 = .ok (.aload_n 0, 1) := zdcg 0 zdT_dX8_gram_0 rfl
theorem dX8_gram_1 : decode cX8_gram 1 = .ok (.iload_n 1, 1) := zdcg 1 zdT_dX8_gram_0 rfl
theorem dX8_gram_2 : decode cX8_gram 2 = .ok (.invokevirtual 126, 3) := zdcg 2 zdT_dX8_gram_0 rfl
theorem dX8_gram_5 : decode cX8_gram 5 = .ok (.ifCond .ne 7, 3) := zdcg 3 zdT_dX8_gram_0 rfl
theorem dX8_gram_8 : decode cX8_gram 8 = .ok (.sipush (-1001), 3) := zdcg 4 zdT_dX8_gram_0 rfl
theorem dX8_gram_11 : decode cX8_gram 11 = .ok (.ireturn, 1) := zdcg 5 zdT_dX8_gram_0 rfl
theorem dX8_gram_12 : decode cX8_gram 12 = .ok (.aload_n 0, 1) := zdcg 6 zdT_dX8_gram_0 rfl
theorem dX8_gram_13 : decode cX8_gram 13 = .ok (.getfield 40, 3) := zdcg 7 zdT_dX8_gram_0 rfl
theorem dX8_gram_16 : decode cX8_gram 16 = .ok (.getfield 129, 3) := zdcg 8 zdT_dX8_gram_0 rfl
theorem dX8_gram_19 : decode cX8_gram 19 = .ok (.iload_n 1, 1) := zdcg 9 zdT_dX8_gram_0 rfl
theorem dX8_gram_20 : decode cX8_gram 20 = .ok (.aaload, 1) := zdcg 10 zdT_dX8_gram_0 rfl
theorem dX8_gram_21 : decode cX8_gram 21 = .ok (.astore 4, 2) := zdcg 11 zdT_dX8_gram_0 rfl
theorem dX8_gram_23 : decode cX8_gram 23 = .ok (.iload_n 2, 1) := zdcg 12 zdT_dX8_gram_0 rfl
theorem dX8_gram_24 : decode cX8_gram 24 = .ok (.ifCond .lt 25, 3) := zdcg 13 zdT_dX8_gram_0 rfl
theorem dX8_gram_27 : decode cX8_gram 27 = .ok (.iload_n 2, 1) := zdcg 14 zdT_dX8_gram_0 rfl
theorem dX8_gram_28 : decode cX8_gram 28 = .ok (.aload 4, 2) := zdcg 15 zdT_dX8_gram_0 rfl
theorem dX8_gram_30 : decode cX8_gram 30 = .ok (.getfield 164, 3) := zdcg 16 zdT_dX8_gram_0 rfl
theorem dX8_gram_33 : decode cX8_gram 33 = .ok (.if_icmp .ge 16, 3) := zdcg 17 zdT_dX8_gram_0 rfl
theorem dX8_gram_36 : decode cX8_gram 36 = .ok (.iload_n 3, 1) := zdcg 18 zdT_dX8_gram_0 rfl
theorem dX8_gram_37 : decode cX8_gram 37 = .ok (.ifCond .lt 12, 3) := zdcg 19 zdT_dX8_gram_0 rfl
theorem dX8_gram_40 : decode cX8_gram 40 = .ok (.iload_n 3, 1) := zdcg 20 zdT_dX8_gram_0 rfl
theorem dX8_gram_41 : decode cX8_gram 41 = .ok (.aload 4, 2) := zdcg 21 zdT_dX8_gram_0 rfl
theorem dX8_gram_43 : decode cX8_gram 43 = .ok (.getfield 164, 3) := zdcg 22 zdT_dX8_gram_0 rfl
theorem dX8_gram_46 : decode cX8_gram 46 = .ok (.if_icmp .lt 7, 3) := zdcg 23 zdT_dX8_gram_0 rfl
theorem dX8_gram_49 : decode cX8_gram 49 = .ok (.sipush (-1001), 3) := zdcg 24 zdT_dX8_gram_0 rfl
theorem zdT_dX8_gram_52 : zdch cX8_gram [(52, (.ireturn, 1)), (53, (.aload 4, 2)), (55, (.getfield 233, 3)), (58, (.iload_n 2, 1)), (59, (.aaload, 1)), (60, (.iload_n 3, 1)), (61, (.iaload, 1)), (62, (.ireturn, 1))] = true := by decide +kernel
theorem dX8_gram_52 : decode cX8_gram 52 = .ok (.ireturn, 1) := zdcg 0 zdT_dX8_gram_52 rfl
theorem dX8_gram_53 : decode cX8_gram 53 = .ok (.aload 4, 2) := zdcg 1 zdT_dX8_gram_52 rfl
theorem dX8_gram_55 : decode cX8_gram 55 = .ok (.getfield 233, 3) := zdcg 2 zdT_dX8_gram_52 rfl
theorem dX8_gram_58 : decode cX8_gram 58 = .ok (.iload_n 2, 1) := zdcg 3 zdT_dX8_gram_52 rfl
theorem dX8_gram_59 : decode cX8_gram 59 = .ok (.aaload, 1) := zdcg 4 zdT_dX8_gram_52 rfl
theorem dX8_gram_60 : decode cX8_gram 60 = .ok (.iload_n 3, 1) := zdcg 5 zdT_dX8_gram_52 rfl
theorem dX8_gram_61 : decode cX8_gram 61 = .ok (.iaload, 1) := zdcg 6 zdT_dX8_gram_52 rfl
theorem dX8_gram_62 : decode cX8_gram 62 = .ok (.ireturn, 1) := zdcg 7 zdT_dX8_gram_52 rfl
theorem zdT_dX8_block_0 : zdch cX8_block [(0, (.aload_n 0, 1)), (1, (.getfield 47, 3)), (4, (.getfield 152, 3)), (7, (.astore_n 3, 1)), (8, (.iload_n 2, 1)), (9, (.iconst (-1), 1)), (10, (.if_icmp .ne 8, 3)), (13, (.aload_n 3, 1)), (14, (.getfield 236, 3)), (17, (.ireturn, 1)), (18, (.iload_n 1, 1)), (19, (.ifCond .lt 11, 3)), (22, (.iload_n 1, 1)), (23, (.aload_n 3, 1)), (24, (.getfield 236, 3)), (27, (.if_icmp .lt 5, 3)), (30, (.iconst (-1), 1)), (31, (.ireturn, 1)), (32, (.iload_n 2, 1)), (33, (.tableswitch 89 0 5 #[39, 46, 53, 65, 72, 79], 39)), (72, (.aload_n 3, 1)), (73, (.getfield 237, 3)), (76, (.iload_n 1, 1)), (77, (.iaload, 1)), (78, (.ireturn, 1))] = true := by decide +kernel
theorem dX8_block_0 : decode cX8_block 0 = .ok (.aload_n 0, 1) := zdcg 0 zdT_dX8_block_0 rfl
theorem dX8_block_1 : decode cX8_block 1 = .ok (.getfield 47, 3) := zdcg 1 zdT_dX8_block_0 rfl
theorem dX8_block_4 : decode cX8_block 4 = .ok (.getfield 152, 3) := zdcg 2 zdT_dX8_block_0 rfl
theorem dX8_block_7 : decode cX8_block 7 = .ok (.astore_n 3, 1) := zdcg 3 zdT_dX8_block_0 rfl
theorem dX8_block_8 : decode cX8_block 8 = .ok (.iload_n 2, 1) := zdcg 4 zdT_dX8_block_0 rfl
theorem dX8_block_9 : decode cX8_block 9 = .ok (.iconst (-1), 1) := zdcg 5 zdT_dX8_block_0 rfl
theorem dX8_block_10 : decode cX8_block 10 = .ok (.if_icmp .ne 8, 3) := zdcg 6 zdT_dX8_block_0 rfl
theorem dX8_block_13 : decode cX8_block 13 = .ok (.aload_n 3, 1) := zdcg 7 zdT_dX8_block_0 rfl
theorem dX8_block_14 : decode cX8_block 14 = .ok (.getfield 236, 3) := zdcg 8 zdT_dX8_block_0 rfl
theorem dX8_block_17 : decode cX8_block 17 = .ok (.ireturn, 1) := zdcg 9 zdT_dX8_block_0 rfl
theorem dX8_block_18 : decode cX8_block 18 = .ok (.iload_n 1, 1) := zdcg 10 zdT_dX8_block_0 rfl
theorem dX8_block_19 : decode cX8_block 19 = .ok (.ifCond .lt 11, 3) := zdcg 11 zdT_dX8_block_0 rfl
theorem dX8_block_22 : decode cX8_block 22 = .ok (.iload_n 1, 1) := zdcg 12 zdT_dX8_block_0 rfl
theorem dX8_block_23 : decode cX8_block 23 = .ok (.aload_n 3, 1) := zdcg 13 zdT_dX8_block_0 rfl
theorem dX8_block_24 : decode cX8_block 24 = .ok (.getfield 236, 3) := zdcg 14 zdT_dX8_block_0 rfl
theorem dX8_block_27 : decode cX8_block 27 = .ok (.if_icmp .lt 5, 3) := zdcg 15 zdT_dX8_block_0 rfl
theorem dX8_block_30 : decode cX8_block 30 = .ok (.iconst (-1), 1) := zdcg 16 zdT_dX8_block_0 rfl
theorem dX8_block_31 : decode cX8_block 31 = .ok (.ireturn, 1) := zdcg 17 zdT_dX8_block_0 rfl
theorem dX8_block_32 : decode cX8_block 32 = .ok (.iload_n 2, 1) := zdcg 18 zdT_dX8_block_0 rfl
theorem dX8_block_33 : decode cX8_block 33 = .ok (.tableswitch 89 0 5 #[39, 46, 53, 65, 72, 79], 39) := zdcg 19 zdT_dX8_block_0 rfl
theorem dX8_block_72 : decode cX8_block 72 = .ok (.aload_n 3, 1) := zdcg 20 zdT_dX8_block_0 rfl
theorem dX8_block_73 : decode cX8_block 73 = .ok (.getfield 237, 3) := zdcg 21 zdT_dX8_block_0 rfl
theorem dX8_block_76 : decode cX8_block 76 = .ok (.iload_n 1, 1) := zdcg 22 zdT_dX8_block_0 rfl
theorem dX8_block_77 : decode cX8_block 77 = .ok (.iaload, 1) := zdcg 23 zdT_dX8_block_0 rfl
theorem dX8_block_78 : decode cX8_block 78 = .ok (.ireturn, 1) := zdcg 24 zdT_dX8_block_0 rfl
theorem zdT_dX8_block_79 : zdch cX8_block [(79, (.aload_n 3, 1)), (80, (.getfield 240, 3)), (83, (.iload_n 1, 1)), (84, (.iaload, 1)), (85, (.ireturn, 1)), (86, (.aload_n 3, 1)), (87, (.getfield 156, 3)), (90, (.aload_n 3, 1)), (91, (.getfield 243, 3)), (94, (.iload_n 1, 1)), (95, (.iaload, 1)), (96, (.iaload, 1)), (97, (.ireturn, 1)), (98, (.aload_n 3, 1)), (99, (.getfield 246, 3)), (102, (.iload_n 1, 1)), (103, (.iaload, 1)), (104, (.ireturn, 1)), (105, (.aload_n 3, 1)), (106, (.getfield 243, 3)), (109, (.iload_n 1, 1)), (110, (.iaload, 1)), (111, (.ireturn, 1)), (112, (.aload_n 0, 1)), (113, (.getfield 47, 3))] = true := by decide +kernel
theorem dX8_block_79 : decode cX8_block 79 = .ok (.aload_n 3, 1) := zdcg 0 zdT_dX8_block_79 rfl
theorem dX8_block_80 : decode cX8_block 80 = .ok (.getfield 240, 3) := zdcg 1 zdT_dX8_block_79 rfl
theorem dX8_block_83 : decode cX8_block 83 = .ok (.iload_n 1, 1) := zdcg 2 zdT_dX8_block_79 rfl
theorem dX8_block_84 : decode cX8_block 84 = .ok (.iaload, 1) := zdcg 3 zdT_dX8_block_79 rfl
theorem dX8_block_85 : decode cX8_block 85 = .ok (.ireturn, 1) := zdcg 4 zdT_dX8_block_79 rfl
theorem dX8_block_86 : decode cX8_block 86 = .ok (.aload_n 3, 1) := zdcg 5 zdT_dX8_block_79 rfl
theorem dX8_block_87 : decode cX8_block 87 = .ok (.getfield 156, 3) := zdcg 6 zdT_dX8_block_79 rfl
theorem dX8_block_90 : decode cX8_block 90 = .ok (.aload_n 3, 1) := zdcg 7 zdT_dX8_block_79 rfl
theorem dX8_block_91 : decode cX8_block 91 = .ok (.getfield 243, 3) := zdcg 8 zdT_dX8_block_79 rfl
theorem dX8_block_94 : decode cX8_block 94 = .ok (.iload_n 1, 1) := zdcg 9 zdT_dX8_block_79 rfl
theorem dX8_block_95 : decode cX8_block 95 = .ok (.iaload, 1) := zdcg 10 zdT_dX8_block_79 rfl
theorem dX8_block_96 : decode cX8_block 96 = .ok (.iaload, 1) := zdcg 11 zdT_dX8_block_79 rfl
theorem dX8_block_97 : decode cX8_block 97 = .ok (.ireturn, 1) := zdcg 12 zdT_dX8_block_79 rfl
theorem dX8_block_98 : decode cX8_block 98 = .ok (.aload_n 3, 1) := zdcg 13 zdT_dX8_block_79 rfl
theorem dX8_block_99 : decode cX8_block 99 = .ok (.getfield 246, 3) := zdcg 14 zdT_dX8_block_79 rfl
theorem dX8_block_102 : decode cX8_block 102 = .ok (.iload_n 1, 1) := zdcg 15 zdT_dX8_block_79 rfl
theorem dX8_block_103 : decode cX8_block 103 = .ok (.iaload, 1) := zdcg 16 zdT_dX8_block_79 rfl
theorem dX8_block_104 : decode cX8_block 104 = .ok (.ireturn, 1) := zdcg 17 zdT_dX8_block_79 rfl
theorem dX8_block_105 : decode cX8_block 105 = .ok (.aload_n 3, 1) := zdcg 18 zdT_dX8_block_79 rfl
theorem dX8_block_106 : decode cX8_block 106 = .ok (.getfield 243, 3) := zdcg 19 zdT_dX8_block_79 rfl
theorem dX8_block_109 : decode cX8_block 109 = .ok (.iload_n 1, 1) := zdcg 20 zdT_dX8_block_79 rfl
theorem dX8_block_110 : decode cX8_block 110 = .ok (.iaload, 1) := zdcg 21 zdT_dX8_block_79 rfl
theorem dX8_block_111 : decode cX8_block 111 = .ok (.ireturn, 1) := zdcg 22 zdT_dX8_block_79 rfl
theorem dX8_block_112 : decode cX8_block 112 = .ok (.aload_n 0, 1) := zdcg 23 zdT_dX8_block_79 rfl
theorem dX8_block_113 : decode cX8_block 113 = .ok (.getfield 47, 3) := zdcg 24 zdT_dX8_block_79 rfl
theorem zdT_dX8_block_116 : zdch cX8_block [(116, (.getfield 249, 3)), (119, (.iload_n 1, 1)), (120, (.iaload, 1)), (121, (.ireturn, 1)), (122, (.iconst (-1), 1)), (123, (.ireturn, 1))] = true := by decide +kernel
theorem dX8_block_116 : decode cX8_block 116 = .ok (.getfield 249, 3) := zdcg 0 zdT_dX8_block_116 rfl
theorem dX8_block_119 : decode cX8_block 119 = .ok (.iload_n 1, 1) := zdcg 1 zdT_dX8_block_116 rfl
theorem dX8_block_120 : decode cX8_block 120 = .ok (.iaload, 1) := zdcg 2 zdT_dX8_block_116 rfl
theorem dX8_block_121 : decode cX8_block 121 = .ok (.ireturn, 1) := zdcg 3 zdT_dX8_block_116 rfl
theorem dX8_block_122 : decode cX8_block 122 = .ok (.iconst (-1), 1) := zdcg 4 zdT_dX8_block_116 rfl
theorem dX8_block_123 : decode cX8_block 123 = .ok (.ireturn, 1) := zdcg 5 zdT_dX8_block_116 rfl
theorem zdT_dX8_value_0 : zdch cX8_value [(0, (.iload_n 1, 1)), (1, (.invokestatic 88, 3)), (4, (.ifCond .eq 22, 3)), (7, (.aload_n 0, 1)), (8, (.iload_n 2, 1)), (9, (.invokevirtual 126, 3)), (12, (.ifCond .eq 14, 3)), (15, (.aload_n 0, 1)), (16, (.getfield 23, 3)), (19, (.iload_n 1, 1)), (20, (.aaload, 1)), (21, (.iload_n 2, 1)), (22, (.laload, 1)), (23, (.goto 6, 3)), (26, (.ldc2_w 254, 3)), (29, (.lreturn, 1))] = true := by decide +kernel
theorem dX8_value_0 : decode cX8_value 0 = .ok (.iload_n 1, 1) := zdcg 0 zdT_dX8_value_0 rfl
theorem dX8_value_1 : decode cX8_value 1 = .ok (.invokestatic 88, 3) := zdcg 1 zdT_dX8_value_0 rfl
theorem dX8_value_4 : decode cX8_value 4 = .ok (.ifCond .eq 22, 3) := zdcg 2 zdT_dX8_value_0 rfl
theorem dX8_value_7 : decode cX8_value 7 = .ok (.aload_n 0, 1) := zdcg 3 zdT_dX8_value_0 rfl
theorem dX8_value_8 : decode cX8_value 8 = .ok (.iload_n 2, 1) := zdcg 4 zdT_dX8_value_0 rfl
theorem dX8_value_9 : decode cX8_value 9 = .ok (.invokevirtual 126, 3) := zdcg 5 zdT_dX8_value_0 rfl
theorem dX8_value_12 : decode cX8_value 12 = .ok (.ifCond .eq 14, 3) := zdcg 6 zdT_dX8_value_0 rfl
theorem dX8_value_15 : decode cX8_value 15 = .ok (.aload_n 0, 1) := zdcg 7 zdT_dX8_value_0 rfl
theorem dX8_value_16 : decode cX8_value 16 = .ok (.getfield 23, 3) := zdcg 8 zdT_dX8_value_0 rfl
theorem dX8_value_19 : decode cX8_value 19 = .ok (.iload_n 1, 1) := zdcg 9 zdT_dX8_value_0 rfl
theorem dX8_value_20 : decode cX8_value 20 = .ok (.aaload, 1) := zdcg 10 zdT_dX8_value_0 rfl
theorem dX8_value_21 : decode cX8_value 21 = .ok (.iload_n 2, 1) := zdcg 11 zdT_dX8_value_0 rfl
theorem dX8_value_22 : decode cX8_value 22 = .ok (.laload, 1) := zdcg 12 zdT_dX8_value_0 rfl
theorem dX8_value_23 : decode cX8_value 23 = .ok (.goto 6, 3) := zdcg 13 zdT_dX8_value_0 rfl
theorem dX8_value_26 : decode cX8_value 26 = .ok (.ldc2_w 254, 3) := zdcg 14 zdT_dX8_value_0 rfl
theorem dX8_value_29 : decode cX8_value 29 = .ok (.lreturn, 1) := zdcg 15 zdT_dX8_value_0 rfl
theorem zdT_dX8_parts_0 : zdch cX8_parts [(0, (.iload_n 1, 1)), (1, (.invokestatic 88, 3)), (4, (.ifCond .eq 20, 3)), (7, (.aload_n 0, 1)), (8, (.iload_n 2, 1)), (9, (.invokevirtual 126, 3)), (12, (.ifCond .eq 12, 3)), (15, (.iload_n 3, 1)), (16, (.ifCond .lt 8, 3)), (19, (.iload_n 3, 1)), (20, (.iconst 3, 1)), (21, (.if_icmp .le 7, 3)), (24, (.ldc2_w 254, 3)), (27, (.lreturn, 1)), (28, (.iload_n 3, 1)), (29, (.iconst 1, 1)), (30, (.if_icmp .eq 8, 3)), (33, (.iload_n 3, 1)), (34, (.iconst 3, 1)), (35, (.if_icmp .ne 7, 3)), (38, (.iconst 1, 1)), (39, (.goto 4, 3)), (42, (.iconst 0, 1)), (43, (.istore 4, 2)), (45, (.iload 4, 2))] = true := by decide +kernel
theorem dX8_parts_0 : decode cX8_parts 0 = .ok (.iload_n 1, 1) := zdcg 0 zdT_dX8_parts_0 rfl
theorem dX8_parts_1 : decode cX8_parts 1 = .ok (.invokestatic 88, 3) := zdcg 1 zdT_dX8_parts_0 rfl
theorem dX8_parts_4 : decode cX8_parts 4 = .ok (.ifCond .eq 20, 3) := zdcg 2 zdT_dX8_parts_0 rfl
theorem dX8_parts_7 : decode cX8_parts 7 = .ok (.aload_n 0, 1) := zdcg 3 zdT_dX8_parts_0 rfl
theorem dX8_parts_8 : decode cX8_parts 8 = .ok (.iload_n 2, 1) := zdcg 4 zdT_dX8_parts_0 rfl
theorem dX8_parts_9 : decode cX8_parts 9 = .ok (.invokevirtual 126, 3) := zdcg 5 zdT_dX8_parts_0 rfl
theorem dX8_parts_12 : decode cX8_parts 12 = .ok (.ifCond .eq 12, 3) := zdcg 6 zdT_dX8_parts_0 rfl
theorem dX8_parts_15 : decode cX8_parts 15 = .ok (.iload_n 3, 1) := zdcg 7 zdT_dX8_parts_0 rfl
theorem dX8_parts_16 : decode cX8_parts 16 = .ok (.ifCond .lt 8, 3) := zdcg 8 zdT_dX8_parts_0 rfl
theorem dX8_parts_19 : decode cX8_parts 19 = .ok (.iload_n 3, 1) := zdcg 9 zdT_dX8_parts_0 rfl
theorem dX8_parts_20 : decode cX8_parts 20 = .ok (.iconst 3, 1) := zdcg 10 zdT_dX8_parts_0 rfl
theorem dX8_parts_21 : decode cX8_parts 21 = .ok (.if_icmp .le 7, 3) := zdcg 11 zdT_dX8_parts_0 rfl
theorem dX8_parts_24 : decode cX8_parts 24 = .ok (.ldc2_w 254, 3) := zdcg 12 zdT_dX8_parts_0 rfl
theorem dX8_parts_27 : decode cX8_parts 27 = .ok (.lreturn, 1) := zdcg 13 zdT_dX8_parts_0 rfl
theorem dX8_parts_28 : decode cX8_parts 28 = .ok (.iload_n 3, 1) := zdcg 14 zdT_dX8_parts_0 rfl
theorem dX8_parts_29 : decode cX8_parts 29 = .ok (.iconst 1, 1) := zdcg 15 zdT_dX8_parts_0 rfl
theorem dX8_parts_30 : decode cX8_parts 30 = .ok (.if_icmp .eq 8, 3) := zdcg 16 zdT_dX8_parts_0 rfl
theorem dX8_parts_33 : decode cX8_parts 33 = .ok (.iload_n 3, 1) := zdcg 17 zdT_dX8_parts_0 rfl
theorem dX8_parts_34 : decode cX8_parts 34 = .ok (.iconst 3, 1) := zdcg 18 zdT_dX8_parts_0 rfl
theorem dX8_parts_35 : decode cX8_parts 35 = .ok (.if_icmp .ne 7, 3) := zdcg 19 zdT_dX8_parts_0 rfl
theorem dX8_parts_38 : decode cX8_parts 38 = .ok (.iconst 1, 1) := zdcg 20 zdT_dX8_parts_0 rfl
theorem dX8_parts_39 : decode cX8_parts 39 = .ok (.goto 4, 3) := zdcg 21 zdT_dX8_parts_0 rfl
theorem dX8_parts_42 : decode cX8_parts 42 = .ok (.iconst 0, 1) := zdcg 22 zdT_dX8_parts_0 rfl
theorem dX8_parts_43 : decode cX8_parts 43 = .ok (.istore 4, 2) := zdcg 23 zdT_dX8_parts_0 rfl
theorem dX8_parts_45 : decode cX8_parts 45 = .ok (.iload 4, 2) := zdcg 24 zdT_dX8_parts_0 rfl
theorem zdT_dX8_parts_47 : zdch cX8_parts [(47, (.ifCond .eq 18, 3)), (50, (.aload_n 0, 1)), (51, (.getfield 47, 3)), (54, (.iload_n 2, 1)), (55, (.invokevirtual 145, 3)), (58, (.ifCond .ne 7, 3)), (61, (.ldc2_w 254, 3)), (64, (.lreturn, 1)), (65, (.aload_n 0, 1)), (66, (.aload_n 0, 1)), (67, (.getfield 23, 3)), (70, (.iload_n 1, 1)), (71, (.aaload, 1)), (72, (.iload_n 2, 1)), (73, (.iload 4, 2)), (75, (.invokevirtual 256, 3)), (78, (.lstore 5, 2)), (80, (.lload 5, 2)), (82, (.invokestatic 260, 3)), (85, (.aload_n 0, 1)), (86, (.getfield 40, 3)), (89, (.getfield 266, 3)), (92, (.i2l, 1)), (93, (.invokestatic 269, 3)), (96, (.lstore 7, 2))] = true := by decide +kernel
theorem dX8_parts_47 : decode cX8_parts 47 = .ok (.ifCond .eq 18, 3) := zdcg 0 zdT_dX8_parts_47 rfl
theorem dX8_parts_50 : decode cX8_parts 50 = .ok (.aload_n 0, 1) := zdcg 1 zdT_dX8_parts_47 rfl
theorem dX8_parts_51 : decode cX8_parts 51 = .ok (.getfield 47, 3) := zdcg 2 zdT_dX8_parts_47 rfl
theorem dX8_parts_54 : decode cX8_parts 54 = .ok (.iload_n 2, 1) := zdcg 3 zdT_dX8_parts_47 rfl
theorem dX8_parts_55 : decode cX8_parts 55 = .ok (.invokevirtual 145, 3) := zdcg 4 zdT_dX8_parts_47 rfl
theorem dX8_parts_58 : decode cX8_parts 58 = .ok (.ifCond .ne 7, 3) := zdcg 5 zdT_dX8_parts_47 rfl
theorem dX8_parts_61 : decode cX8_parts 61 = .ok (.ldc2_w 254, 3) := zdcg 6 zdT_dX8_parts_47 rfl
theorem dX8_parts_64 : decode cX8_parts 64 = .ok (.lreturn, 1) := zdcg 7 zdT_dX8_parts_47 rfl
theorem dX8_parts_65 : decode cX8_parts 65 = .ok (.aload_n 0, 1) := zdcg 8 zdT_dX8_parts_47 rfl
theorem dX8_parts_66 : decode cX8_parts 66 = .ok (.aload_n 0, 1) := zdcg 9 zdT_dX8_parts_47 rfl
theorem dX8_parts_67 : decode cX8_parts 67 = .ok (.getfield 23, 3) := zdcg 10 zdT_dX8_parts_47 rfl
theorem dX8_parts_70 : decode cX8_parts 70 = .ok (.iload_n 1, 1) := zdcg 11 zdT_dX8_parts_47 rfl
theorem dX8_parts_71 : decode cX8_parts 71 = .ok (.aaload, 1) := zdcg 12 zdT_dX8_parts_47 rfl
theorem dX8_parts_72 : decode cX8_parts 72 = .ok (.iload_n 2, 1) := zdcg 13 zdT_dX8_parts_47 rfl
theorem dX8_parts_73 : decode cX8_parts 73 = .ok (.iload 4, 2) := zdcg 14 zdT_dX8_parts_47 rfl
theorem dX8_parts_75 : decode cX8_parts 75 = .ok (.invokevirtual 256, 3) := zdcg 15 zdT_dX8_parts_47 rfl
theorem dX8_parts_78 : decode cX8_parts 78 = .ok (.lstore 5, 2) := zdcg 16 zdT_dX8_parts_47 rfl
theorem dX8_parts_80 : decode cX8_parts 80 = .ok (.lload 5, 2) := zdcg 17 zdT_dX8_parts_47 rfl
theorem dX8_parts_82 : decode cX8_parts 82 = .ok (.invokestatic 260, 3) := zdcg 18 zdT_dX8_parts_47 rfl
theorem dX8_parts_85 : decode cX8_parts 85 = .ok (.aload_n 0, 1) := zdcg 19 zdT_dX8_parts_47 rfl
theorem dX8_parts_86 : decode cX8_parts 86 = .ok (.getfield 40, 3) := zdcg 20 zdT_dX8_parts_47 rfl
theorem dX8_parts_89 : decode cX8_parts 89 = .ok (.getfield 266, 3) := zdcg 21 zdT_dX8_parts_47 rfl
theorem dX8_parts_92 : decode cX8_parts 92 = .ok (.i2l, 1) := zdcg 22 zdT_dX8_parts_47 rfl
theorem dX8_parts_93 : decode cX8_parts 93 = .ok (.invokestatic 269, 3) := zdcg 23 zdT_dX8_parts_47 rfl
theorem dX8_parts_96 : decode cX8_parts 96 = .ok (.lstore 7, 2) := zdcg 24 zdT_dX8_parts_47 rfl
theorem zdT_dX8_parts_98 : zdch cX8_parts [(98, (.lload 7, 2)), (100, (.lconst 0, 1)), (101, (.lcmp, 1)), (102, (.ifCond .ne 7, 3)), (105, (.ldc2_w 254, 3)), (108, (.lreturn, 1)), (109, (.iload_n 3, 1)), (110, (.iconst 2, 1)), (111, (.if_icmp .ge 11, 3)), (114, (.lload 5, 2)), (116, (.lload 7, 2)), (118, (.ldiv, 1)), (119, (.goto 14, 3)), (122, (.aload_n 0, 1)), (123, (.getfield 40, 3)), (126, (.getfield 266, 3)), (129, (.i2l, 1)), (130, (.lload 7, 2)), (132, (.ldiv, 1)), (133, (.lreturn, 1))] = true := by decide +kernel
theorem dX8_parts_98 : decode cX8_parts 98 = .ok (.lload 7, 2) := zdcg 0 zdT_dX8_parts_98 rfl
theorem dX8_parts_100 : decode cX8_parts 100 = .ok (.lconst 0, 1) := zdcg 1 zdT_dX8_parts_98 rfl
theorem dX8_parts_101 : decode cX8_parts 101 = .ok (.lcmp, 1) := zdcg 2 zdT_dX8_parts_98 rfl
theorem dX8_parts_102 : decode cX8_parts 102 = .ok (.ifCond .ne 7, 3) := zdcg 3 zdT_dX8_parts_98 rfl
theorem dX8_parts_105 : decode cX8_parts 105 = .ok (.ldc2_w 254, 3) := zdcg 4 zdT_dX8_parts_98 rfl
theorem dX8_parts_108 : decode cX8_parts 108 = .ok (.lreturn, 1) := zdcg 5 zdT_dX8_parts_98 rfl
theorem dX8_parts_109 : decode cX8_parts 109 = .ok (.iload_n 3, 1) := zdcg 6 zdT_dX8_parts_98 rfl
theorem dX8_parts_110 : decode cX8_parts 110 = .ok (.iconst 2, 1) := zdcg 7 zdT_dX8_parts_98 rfl
theorem dX8_parts_111 : decode cX8_parts 111 = .ok (.if_icmp .ge 11, 3) := zdcg 8 zdT_dX8_parts_98 rfl
theorem dX8_parts_114 : decode cX8_parts 114 = .ok (.lload 5, 2) := zdcg 9 zdT_dX8_parts_98 rfl
theorem dX8_parts_116 : decode cX8_parts 116 = .ok (.lload 7, 2) := zdcg 10 zdT_dX8_parts_98 rfl
theorem dX8_parts_118 : decode cX8_parts 118 = .ok (.ldiv, 1) := zdcg 11 zdT_dX8_parts_98 rfl
theorem dX8_parts_119 : decode cX8_parts 119 = .ok (.goto 14, 3) := zdcg 12 zdT_dX8_parts_98 rfl
theorem dX8_parts_122 : decode cX8_parts 122 = .ok (.aload_n 0, 1) := zdcg 13 zdT_dX8_parts_98 rfl
theorem dX8_parts_123 : decode cX8_parts 123 = .ok (.getfield 40, 3) := zdcg 14 zdT_dX8_parts_98 rfl
theorem dX8_parts_126 : decode cX8_parts 126 = .ok (.getfield 266, 3) := zdcg 15 zdT_dX8_parts_98 rfl
theorem dX8_parts_129 : decode cX8_parts 129 = .ok (.i2l, 1) := zdcg 16 zdT_dX8_parts_98 rfl
theorem dX8_parts_130 : decode cX8_parts 130 = .ok (.lload 7, 2) := zdcg 17 zdT_dX8_parts_98 rfl
theorem dX8_parts_132 : decode cX8_parts 132 = .ok (.ldiv, 1) := zdcg 18 zdT_dX8_parts_98 rfl
theorem dX8_parts_133 : decode cX8_parts 133 = .ok (.lreturn, 1) := zdcg 19 zdT_dX8_parts_98 rfl
theorem zdT_dX8_inner_0 : zdch cX8_inner [(0, (.iload_n 1, 1)), (1, (.invokestatic 88, 3)), (4, (.ifCond .eq 10, 3)), (7, (.iload_n 2, 1)), (8, (.invokestatic 88, 3)), (11, (.ifCond .ne 7, 3)), (14, (.ldc2_w 273, 3)), (17, (.lreturn, 1)), (18, (.lconst 0, 1)), (19, (.lstore_n 3, 1)), (20, (.iconst 0, 1)), (21, (.istore 5, 2)), (23, (.iload 5, 2)), (25, (.aload_n 0, 1)), (26, (.getfield 40, 3)), (29, (.getfield 74, 3)), (32, (.if_icmp .ge 43, 3)), (35, (.lload_n 3, 1)), (36, (.aload_n 0, 1)), (37, (.getfield 40, 3)), (40, (.getfield 193, 3)), (43, (.iload 5, 2)), (45, (.iaload, 1)), (46, (.i2l, 1)), (47, (.aload_n 0, 1))] = true := by decide +kernel
theorem dX8_inner_0 : decode cX8_inner 0 = .ok (.iload_n 1, 1) := zdcg 0 zdT_dX8_inner_0 rfl
theorem dX8_inner_1 : decode cX8_inner 1 = .ok (.invokestatic 88, 3) := zdcg 1 zdT_dX8_inner_0 rfl
theorem dX8_inner_4 : decode cX8_inner 4 = .ok (.ifCond .eq 10, 3) := zdcg 2 zdT_dX8_inner_0 rfl
theorem dX8_inner_7 : decode cX8_inner 7 = .ok (.iload_n 2, 1) := zdcg 3 zdT_dX8_inner_0 rfl
theorem dX8_inner_8 : decode cX8_inner 8 = .ok (.invokestatic 88, 3) := zdcg 4 zdT_dX8_inner_0 rfl
theorem dX8_inner_11 : decode cX8_inner 11 = .ok (.ifCond .ne 7, 3) := zdcg 5 zdT_dX8_inner_0 rfl
theorem dX8_inner_14 : decode cX8_inner 14 = .ok (.ldc2_w 273, 3) := zdcg 6 zdT_dX8_inner_0 rfl
theorem dX8_inner_17 : decode cX8_inner 17 = .ok (.lreturn, 1) := zdcg 7 zdT_dX8_inner_0 rfl
theorem dX8_inner_18 : decode cX8_inner 18 = .ok (.lconst 0, 1) := zdcg 8 zdT_dX8_inner_0 rfl
theorem dX8_inner_19 : decode cX8_inner 19 = .ok (.lstore_n 3, 1) := zdcg 9 zdT_dX8_inner_0 rfl
theorem dX8_inner_20 : decode cX8_inner 20 = .ok (.iconst 0, 1) := zdcg 10 zdT_dX8_inner_0 rfl
theorem dX8_inner_21 : decode cX8_inner 21 = .ok (.istore 5, 2) := zdcg 11 zdT_dX8_inner_0 rfl
theorem dX8_inner_23 : decode cX8_inner 23 = .ok (.iload 5, 2) := zdcg 12 zdT_dX8_inner_0 rfl
theorem dX8_inner_25 : decode cX8_inner 25 = .ok (.aload_n 0, 1) := zdcg 13 zdT_dX8_inner_0 rfl
theorem dX8_inner_26 : decode cX8_inner 26 = .ok (.getfield 40, 3) := zdcg 14 zdT_dX8_inner_0 rfl
theorem dX8_inner_29 : decode cX8_inner 29 = .ok (.getfield 74, 3) := zdcg 15 zdT_dX8_inner_0 rfl
theorem dX8_inner_32 : decode cX8_inner 32 = .ok (.if_icmp .ge 43, 3) := zdcg 16 zdT_dX8_inner_0 rfl
theorem dX8_inner_35 : decode cX8_inner 35 = .ok (.lload_n 3, 1) := zdcg 17 zdT_dX8_inner_0 rfl
theorem dX8_inner_36 : decode cX8_inner 36 = .ok (.aload_n 0, 1) := zdcg 18 zdT_dX8_inner_0 rfl
theorem dX8_inner_37 : decode cX8_inner 37 = .ok (.getfield 40, 3) := zdcg 19 zdT_dX8_inner_0 rfl
theorem dX8_inner_40 : decode cX8_inner 40 = .ok (.getfield 193, 3) := zdcg 20 zdT_dX8_inner_0 rfl
theorem dX8_inner_43 : decode cX8_inner 43 = .ok (.iload 5, 2) := zdcg 21 zdT_dX8_inner_0 rfl
theorem dX8_inner_45 : decode cX8_inner 45 = .ok (.iaload, 1) := zdcg 22 zdT_dX8_inner_0 rfl
theorem dX8_inner_46 : decode cX8_inner 46 = .ok (.i2l, 1) := zdcg 23 zdT_dX8_inner_0 rfl
theorem dX8_inner_47 : decode cX8_inner 47 = .ok (.aload_n 0, 1) := zdcg 24 zdT_dX8_inner_0 rfl
theorem zdT_dX8_inner_48 : zdch cX8_inner [(48, (.getfield 23, 3)), (51, (.iload_n 1, 1)), (52, (.aaload, 1)), (53, (.iload 5, 2)), (55, (.laload, 1)), (56, (.lmul, 1)), (57, (.aload_n 0, 1)), (58, (.getfield 23, 3)), (61, (.iload_n 2, 1)), (62, (.aaload, 1)), (63, (.iload 5, 2)), (65, (.laload, 1)), (66, (.lmul, 1)), (67, (.ladd, 1)), (68, (.lstore_n 3, 1)), (69, (.iinc 5 1, 3)), (72, (.goto (-49), 3)), (75, (.lload_n 3, 1)), (76, (.lreturn, 1))] = true := by decide +kernel
theorem dX8_inner_48 : decode cX8_inner 48 = .ok (.getfield 23, 3) := zdcg 0 zdT_dX8_inner_48 rfl
theorem dX8_inner_51 : decode cX8_inner 51 = .ok (.iload_n 1, 1) := zdcg 1 zdT_dX8_inner_48 rfl
theorem dX8_inner_52 : decode cX8_inner 52 = .ok (.aaload, 1) := zdcg 2 zdT_dX8_inner_48 rfl
theorem dX8_inner_53 : decode cX8_inner 53 = .ok (.iload 5, 2) := zdcg 3 zdT_dX8_inner_48 rfl
theorem dX8_inner_55 : decode cX8_inner 55 = .ok (.laload, 1) := zdcg 4 zdT_dX8_inner_48 rfl
theorem dX8_inner_56 : decode cX8_inner 56 = .ok (.lmul, 1) := zdcg 5 zdT_dX8_inner_48 rfl
theorem dX8_inner_57 : decode cX8_inner 57 = .ok (.aload_n 0, 1) := zdcg 6 zdT_dX8_inner_48 rfl
theorem dX8_inner_58 : decode cX8_inner 58 = .ok (.getfield 23, 3) := zdcg 7 zdT_dX8_inner_48 rfl
theorem dX8_inner_61 : decode cX8_inner 61 = .ok (.iload_n 2, 1) := zdcg 8 zdT_dX8_inner_48 rfl
theorem dX8_inner_62 : decode cX8_inner 62 = .ok (.aaload, 1) := zdcg 9 zdT_dX8_inner_48 rfl
theorem dX8_inner_63 : decode cX8_inner 63 = .ok (.iload 5, 2) := zdcg 10 zdT_dX8_inner_48 rfl
theorem dX8_inner_65 : decode cX8_inner 65 = .ok (.laload, 1) := zdcg 11 zdT_dX8_inner_48 rfl
theorem dX8_inner_66 : decode cX8_inner 66 = .ok (.lmul, 1) := zdcg 12 zdT_dX8_inner_48 rfl
theorem dX8_inner_67 : decode cX8_inner 67 = .ok (.ladd, 1) := zdcg 13 zdT_dX8_inner_48 rfl
theorem dX8_inner_68 : decode cX8_inner 68 = .ok (.lstore_n 3, 1) := zdcg 14 zdT_dX8_inner_48 rfl
theorem dX8_inner_69 : decode cX8_inner 69 = .ok (.iinc 5 1, 3) := zdcg 15 zdT_dX8_inner_48 rfl
theorem dX8_inner_72 : decode cX8_inner 72 = .ok (.goto (-49), 3) := zdcg 16 zdT_dX8_inner_48 rfl
theorem dX8_inner_75 : decode cX8_inner 75 = .ok (.lload_n 3, 1) := zdcg 17 zdT_dX8_inner_48 rfl
theorem dX8_inner_76 : decode cX8_inner 76 = .ok (.lreturn, 1) := zdcg 18 zdT_dX8_inner_48 rfl
theorem zdT_dX8_kind_0 : zdch cX8_kind [(0, (.iload_n 1, 1)), (1, (.invokestatic 88, 3)), (4, (.ifCond .ne 5, 3)), (7, (.iconst (-1), 1)), (8, (.ireturn, 1)), (9, (.aload_n 0, 1)), (10, (.getfield 23, 3)), (13, (.iload_n 1, 1)), (14, (.aaload, 1)), (15, (.astore_n 3, 1)), (16, (.iload_n 2, 1)), (17, (.tableswitch 88 0 4 #[35, 44, 55, 66, 77], 35)), (52, (.aload_n 0, 1)), (53, (.aload_n 3, 1)), (54, (.invokevirtual 275, 3)), (57, (.invokestatic 148, 3)), (60, (.ireturn, 1)), (61, (.aload_n 0, 1)), (62, (.aload_n 3, 1)), (63, (.iconst 0, 1)), (64, (.iconst 0, 1)), (65, (.invokevirtual 279, 3)), (68, (.invokestatic 148, 3)), (71, (.ireturn, 1)), (72, (.aload_n 0, 1))] = true := by decide +kernel
theorem dX8_kind_0 : decode cX8_kind 0 = .ok (.iload_n 1, 1) := zdcg 0 zdT_dX8_kind_0 rfl
theorem dX8_kind_1 : decode cX8_kind 1 = .ok (.invokestatic 88, 3) := zdcg 1 zdT_dX8_kind_0 rfl
theorem dX8_kind_4 : decode cX8_kind 4 = .ok (.ifCond .ne 5, 3) := zdcg 2 zdT_dX8_kind_0 rfl
theorem dX8_kind_7 : decode cX8_kind 7 = .ok (.iconst (-1), 1) := zdcg 3 zdT_dX8_kind_0 rfl
theorem dX8_kind_8 : decode cX8_kind 8 = .ok (.ireturn, 1) := zdcg 4 zdT_dX8_kind_0 rfl
theorem dX8_kind_9 : decode cX8_kind 9 = .ok (.aload_n 0, 1) := zdcg 5 zdT_dX8_kind_0 rfl
theorem dX8_kind_10 : decode cX8_kind 10 = .ok (.getfield 23, 3) := zdcg 6 zdT_dX8_kind_0 rfl
theorem dX8_kind_13 : decode cX8_kind 13 = .ok (.iload_n 1, 1) := zdcg 7 zdT_dX8_kind_0 rfl
theorem dX8_kind_14 : decode cX8_kind 14 = .ok (.aaload, 1) := zdcg 8 zdT_dX8_kind_0 rfl
theorem dX8_kind_15 : decode cX8_kind 15 = .ok (.astore_n 3, 1) := zdcg 9 zdT_dX8_kind_0 rfl
theorem dX8_kind_16 : decode cX8_kind 16 = .ok (.iload_n 2, 1) := zdcg 10 zdT_dX8_kind_0 rfl
theorem dX8_kind_17 : decode cX8_kind 17 = .ok (.tableswitch 88 0 4 #[35, 44, 55, 66, 77], 35) := zdcg 11 zdT_dX8_kind_0 rfl
theorem dX8_kind_52 : decode cX8_kind 52 = .ok (.aload_n 0, 1) := zdcg 12 zdT_dX8_kind_0 rfl
theorem dX8_kind_53 : decode cX8_kind 53 = .ok (.aload_n 3, 1) := zdcg 13 zdT_dX8_kind_0 rfl
theorem dX8_kind_54 : decode cX8_kind 54 = .ok (.invokevirtual 275, 3) := zdcg 14 zdT_dX8_kind_0 rfl
theorem dX8_kind_57 : decode cX8_kind 57 = .ok (.invokestatic 148, 3) := zdcg 15 zdT_dX8_kind_0 rfl
theorem dX8_kind_60 : decode cX8_kind 60 = .ok (.ireturn, 1) := zdcg 16 zdT_dX8_kind_0 rfl
theorem dX8_kind_61 : decode cX8_kind 61 = .ok (.aload_n 0, 1) := zdcg 17 zdT_dX8_kind_0 rfl
theorem dX8_kind_62 : decode cX8_kind 62 = .ok (.aload_n 3, 1) := zdcg 18 zdT_dX8_kind_0 rfl
theorem dX8_kind_63 : decode cX8_kind 63 = .ok (.iconst 0, 1) := zdcg 19 zdT_dX8_kind_0 rfl
theorem dX8_kind_64 : decode cX8_kind 64 = .ok (.iconst 0, 1) := zdcg 20 zdT_dX8_kind_0 rfl
theorem dX8_kind_65 : decode cX8_kind 65 = .ok (.invokevirtual 279, 3) := zdcg 21 zdT_dX8_kind_0 rfl
theorem dX8_kind_68 : decode cX8_kind 68 = .ok (.invokestatic 148, 3) := zdcg 22 zdT_dX8_kind_0 rfl
theorem dX8_kind_71 : decode cX8_kind 71 = .ok (.ireturn, 1) := zdcg 23 zdT_dX8_kind_0 rfl
theorem dX8_kind_72 : decode cX8_kind 72 = .ok (.aload_n 0, 1) := zdcg 24 zdT_dX8_kind_0 rfl
theorem zdT_dX8_kind_73 : zdch cX8_kind [(73, (.aload_n 3, 1)), (74, (.iconst 0, 1)), (75, (.iconst 1, 1)), (76, (.invokevirtual 279, 3)), (79, (.invokestatic 148, 3)), (82, (.ireturn, 1)), (83, (.aload_n 0, 1)), (84, (.aload_n 3, 1)), (85, (.iconst 1, 1)), (86, (.iconst 0, 1)), (87, (.invokevirtual 279, 3)), (90, (.invokestatic 148, 3)), (93, (.ireturn, 1)), (94, (.aload_n 0, 1)), (95, (.aload_n 3, 1)), (96, (.iconst 1, 1)), (97, (.iconst 1, 1)), (98, (.invokevirtual 279, 3)), (101, (.invokestatic 148, 3)), (104, (.ireturn, 1)), (105, (.iconst (-1), 1)), (106, (.ireturn, 1))] = true := by decide +kernel
theorem dX8_kind_73 : decode cX8_kind 73 = .ok (.aload_n 3, 1) := zdcg 0 zdT_dX8_kind_73 rfl
theorem dX8_kind_74 : decode cX8_kind 74 = .ok (.iconst 0, 1) := zdcg 1 zdT_dX8_kind_73 rfl
theorem dX8_kind_75 : decode cX8_kind 75 = .ok (.iconst 1, 1) := zdcg 2 zdT_dX8_kind_73 rfl
theorem dX8_kind_76 : decode cX8_kind 76 = .ok (.invokevirtual 279, 3) := zdcg 3 zdT_dX8_kind_73 rfl
theorem dX8_kind_79 : decode cX8_kind 79 = .ok (.invokestatic 148, 3) := zdcg 4 zdT_dX8_kind_73 rfl
theorem dX8_kind_82 : decode cX8_kind 82 = .ok (.ireturn, 1) := zdcg 5 zdT_dX8_kind_73 rfl
theorem dX8_kind_83 : decode cX8_kind 83 = .ok (.aload_n 0, 1) := zdcg 6 zdT_dX8_kind_73 rfl
theorem dX8_kind_84 : decode cX8_kind 84 = .ok (.aload_n 3, 1) := zdcg 7 zdT_dX8_kind_73 rfl
theorem dX8_kind_85 : decode cX8_kind 85 = .ok (.iconst 1, 1) := zdcg 8 zdT_dX8_kind_73 rfl
theorem dX8_kind_86 : decode cX8_kind 86 = .ok (.iconst 0, 1) := zdcg 9 zdT_dX8_kind_73 rfl
theorem dX8_kind_87 : decode cX8_kind 87 = .ok (.invokevirtual 279, 3) := zdcg 10 zdT_dX8_kind_73 rfl
theorem dX8_kind_90 : decode cX8_kind 90 = .ok (.invokestatic 148, 3) := zdcg 11 zdT_dX8_kind_73 rfl
theorem dX8_kind_93 : decode cX8_kind 93 = .ok (.ireturn, 1) := zdcg 12 zdT_dX8_kind_73 rfl
theorem dX8_kind_94 : decode cX8_kind 94 = .ok (.aload_n 0, 1) := zdcg 13 zdT_dX8_kind_73 rfl
theorem dX8_kind_95 : decode cX8_kind 95 = .ok (.aload_n 3, 1) := zdcg 14 zdT_dX8_kind_73 rfl
theorem dX8_kind_96 : decode cX8_kind 96 = .ok (.iconst 1, 1) := zdcg 15 zdT_dX8_kind_73 rfl
theorem dX8_kind_97 : decode cX8_kind 97 = .ok (.iconst 1, 1) := zdcg 16 zdT_dX8_kind_73 rfl
theorem dX8_kind_98 : decode cX8_kind 98 = .ok (.invokevirtual 279, 3) := zdcg 17 zdT_dX8_kind_73 rfl
theorem dX8_kind_101 : decode cX8_kind 101 = .ok (.invokestatic 148, 3) := zdcg 18 zdT_dX8_kind_73 rfl
theorem dX8_kind_104 : decode cX8_kind 104 = .ok (.ireturn, 1) := zdcg 19 zdT_dX8_kind_73 rfl
theorem dX8_kind_105 : decode cX8_kind 105 = .ok (.iconst (-1), 1) := zdcg 20 zdT_dX8_kind_73 rfl
theorem dX8_kind_106 : decode cX8_kind 106 = .ok (.ireturn, 1) := zdcg 21 zdT_dX8_kind_73 rfl
theorem zdT_dX8_cut_0 : zdch cX8_cut [(0, (.iload_n 1, 1)), (1, (.invokestatic 88, 3)), (4, (.ifCond .eq 28, 3)), (7, (.iload_n 3, 1)), (8, (.invokestatic 88, 3)), (11, (.ifCond .eq 21, 3)), (14, (.iload_n 2, 1)), (15, (.ifCond .lt 17, 3)), (18, (.iload_n 2, 1)), (19, (.aload_n 0, 1)), (20, (.getfield 47, 3)), (23, (.getfield 152, 3)), (26, (.getfield 236, 3)), (29, (.if_icmp .lt 5, 3)), (32, (.iconst (-1), 1)), (33, (.ireturn, 1)), (34, (.aload_n 0, 1)), (35, (.getfield 26, 3)), (38, (.lconst 0, 1)), (39, (.invokestatic 68, 3)), (42, (.iconst 0, 1)), (43, (.istore 4, 2)), (45, (.iload 4, 2)), (47, (.aload_n 0, 1)), (48, (.getfield 40, 3))] = true := by decide +kernel
theorem dX8_cut_0 : decode cX8_cut 0 = .ok (.iload_n 1, 1) := zdcg 0 zdT_dX8_cut_0 rfl
theorem dX8_cut_1 : decode cX8_cut 1 = .ok (.invokestatic 88, 3) := zdcg 1 zdT_dX8_cut_0 rfl
theorem dX8_cut_4 : decode cX8_cut 4 = .ok (.ifCond .eq 28, 3) := zdcg 2 zdT_dX8_cut_0 rfl
theorem dX8_cut_7 : decode cX8_cut 7 = .ok (.iload_n 3, 1) := zdcg 3 zdT_dX8_cut_0 rfl
theorem dX8_cut_8 : decode cX8_cut 8 = .ok (.invokestatic 88, 3) := zdcg 4 zdT_dX8_cut_0 rfl
theorem dX8_cut_11 : decode cX8_cut 11 = .ok (.ifCond .eq 21, 3) := zdcg 5 zdT_dX8_cut_0 rfl
theorem dX8_cut_14 : decode cX8_cut 14 = .ok (.iload_n 2, 1) := zdcg 6 zdT_dX8_cut_0 rfl
theorem dX8_cut_15 : decode cX8_cut 15 = .ok (.ifCond .lt 17, 3) := zdcg 7 zdT_dX8_cut_0 rfl
theorem dX8_cut_18 : decode cX8_cut 18 = .ok (.iload_n 2, 1) := zdcg 8 zdT_dX8_cut_0 rfl
theorem dX8_cut_19 : decode cX8_cut 19 = .ok (.aload_n 0, 1) := zdcg 9 zdT_dX8_cut_0 rfl
theorem dX8_cut_20 : decode cX8_cut 20 = .ok (.getfield 47, 3) := zdcg 10 zdT_dX8_cut_0 rfl
theorem dX8_cut_23 : decode cX8_cut 23 = .ok (.getfield 152, 3) := zdcg 11 zdT_dX8_cut_0 rfl
theorem dX8_cut_26 : decode cX8_cut 26 = .ok (.getfield 236, 3) := zdcg 12 zdT_dX8_cut_0 rfl
theorem dX8_cut_29 : decode cX8_cut 29 = .ok (.if_icmp .lt 5, 3) := zdcg 13 zdT_dX8_cut_0 rfl
theorem dX8_cut_32 : decode cX8_cut 32 = .ok (.iconst (-1), 1) := zdcg 14 zdT_dX8_cut_0 rfl
theorem dX8_cut_33 : decode cX8_cut 33 = .ok (.ireturn, 1) := zdcg 15 zdT_dX8_cut_0 rfl
theorem dX8_cut_34 : decode cX8_cut 34 = .ok (.aload_n 0, 1) := zdcg 16 zdT_dX8_cut_0 rfl
theorem dX8_cut_35 : decode cX8_cut 35 = .ok (.getfield 26, 3) := zdcg 17 zdT_dX8_cut_0 rfl
theorem dX8_cut_38 : decode cX8_cut 38 = .ok (.lconst 0, 1) := zdcg 18 zdT_dX8_cut_0 rfl
theorem dX8_cut_39 : decode cX8_cut 39 = .ok (.invokestatic 68, 3) := zdcg 19 zdT_dX8_cut_0 rfl
theorem dX8_cut_42 : decode cX8_cut 42 = .ok (.iconst 0, 1) := zdcg 20 zdT_dX8_cut_0 rfl
theorem dX8_cut_43 : decode cX8_cut 43 = .ok (.istore 4, 2) := zdcg 21 zdT_dX8_cut_0 rfl
theorem dX8_cut_45 : decode cX8_cut 45 = .ok (.iload 4, 2) := zdcg 22 zdT_dX8_cut_0 rfl
theorem dX8_cut_47 : decode cX8_cut 47 = .ok (.aload_n 0, 1) := zdcg 23 zdT_dX8_cut_0 rfl
theorem dX8_cut_48 : decode cX8_cut 48 = .ok (.getfield 40, 3) := zdcg 24 zdT_dX8_cut_0 rfl
theorem zdT_dX8_cut_51 : zdch cX8_cut [(51, (.getfield 74, 3)), (54, (.if_icmp .ge 80, 3)), (57, (.aload_n 0, 1)), (58, (.getfield 47, 3)), (61, (.getfield 152, 3)), (64, (.getfield 161, 3)), (67, (.iload 4, 2)), (69, (.iaload, 1)), (70, (.iload_n 2, 1)), (71, (.if_icmp .eq 6, 3)), (74, (.goto 54, 3)), (77, (.aload_n 0, 1)), (78, (.aload_n 0, 1)), (79, (.getfield 23, 3)), (82, (.iload_n 1, 1)), (83, (.aaload, 1)), (84, (.iload 4, 2)), (86, (.iconst 0, 1)), (87, (.invokevirtual 256, 3)), (90, (.lstore 5, 2)), (92, (.aload_n 0, 1)), (93, (.lload 5, 2)), (95, (.invokevirtual 283, 3)), (98, (.ifCond .ne 5, 3)), (101, (.iconst (-1), 1))] = true := by decide +kernel
theorem dX8_cut_51 : decode cX8_cut 51 = .ok (.getfield 74, 3) := zdcg 0 zdT_dX8_cut_51 rfl
theorem dX8_cut_54 : decode cX8_cut 54 = .ok (.if_icmp .ge 80, 3) := zdcg 1 zdT_dX8_cut_51 rfl
theorem dX8_cut_57 : decode cX8_cut 57 = .ok (.aload_n 0, 1) := zdcg 2 zdT_dX8_cut_51 rfl
theorem dX8_cut_58 : decode cX8_cut 58 = .ok (.getfield 47, 3) := zdcg 3 zdT_dX8_cut_51 rfl
theorem dX8_cut_61 : decode cX8_cut 61 = .ok (.getfield 152, 3) := zdcg 4 zdT_dX8_cut_51 rfl
theorem dX8_cut_64 : decode cX8_cut 64 = .ok (.getfield 161, 3) := zdcg 5 zdT_dX8_cut_51 rfl
theorem dX8_cut_67 : decode cX8_cut 67 = .ok (.iload 4, 2) := zdcg 6 zdT_dX8_cut_51 rfl
theorem dX8_cut_69 : decode cX8_cut 69 = .ok (.iaload, 1) := zdcg 7 zdT_dX8_cut_51 rfl
theorem dX8_cut_70 : decode cX8_cut 70 = .ok (.iload_n 2, 1) := zdcg 8 zdT_dX8_cut_51 rfl
theorem dX8_cut_71 : decode cX8_cut 71 = .ok (.if_icmp .eq 6, 3) := zdcg 9 zdT_dX8_cut_51 rfl
theorem dX8_cut_74 : decode cX8_cut 74 = .ok (.goto 54, 3) := zdcg 10 zdT_dX8_cut_51 rfl
theorem dX8_cut_77 : decode cX8_cut 77 = .ok (.aload_n 0, 1) := zdcg 11 zdT_dX8_cut_51 rfl
theorem dX8_cut_78 : decode cX8_cut 78 = .ok (.aload_n 0, 1) := zdcg 12 zdT_dX8_cut_51 rfl
theorem dX8_cut_79 : decode cX8_cut 79 = .ok (.getfield 23, 3) := zdcg 13 zdT_dX8_cut_51 rfl
theorem dX8_cut_82 : decode cX8_cut 82 = .ok (.iload_n 1, 1) := zdcg 14 zdT_dX8_cut_51 rfl
theorem dX8_cut_83 : decode cX8_cut 83 = .ok (.aaload, 1) := zdcg 15 zdT_dX8_cut_51 rfl
theorem dX8_cut_84 : decode cX8_cut 84 = .ok (.iload 4, 2) := zdcg 16 zdT_dX8_cut_51 rfl
theorem dX8_cut_86 : decode cX8_cut 86 = .ok (.iconst 0, 1) := zdcg 17 zdT_dX8_cut_51 rfl
theorem dX8_cut_87 : decode cX8_cut 87 = .ok (.invokevirtual 256, 3) := zdcg 18 zdT_dX8_cut_51 rfl
theorem dX8_cut_90 : decode cX8_cut 90 = .ok (.lstore 5, 2) := zdcg 19 zdT_dX8_cut_51 rfl
theorem dX8_cut_92 : decode cX8_cut 92 = .ok (.aload_n 0, 1) := zdcg 20 zdT_dX8_cut_51 rfl
theorem dX8_cut_93 : decode cX8_cut 93 = .ok (.lload 5, 2) := zdcg 21 zdT_dX8_cut_51 rfl
theorem dX8_cut_95 : decode cX8_cut 95 = .ok (.invokevirtual 283, 3) := zdcg 22 zdT_dX8_cut_51 rfl
theorem dX8_cut_98 : decode cX8_cut 98 = .ok (.ifCond .ne 5, 3) := zdcg 23 zdT_dX8_cut_51 rfl
theorem dX8_cut_101 : decode cX8_cut 101 = .ok (.iconst (-1), 1) := zdcg 24 zdT_dX8_cut_51 rfl
theorem zdT_dX8_cut_102 : zdch cX8_cut [(102, (.ireturn, 1)), (103, (.aload_n 0, 1)), (104, (.lload 5, 2)), (106, (.aload_n 0, 1)), (107, (.getfield 40, 3)), (110, (.getfield 266, 3)), (113, (.i2l, 1)), (114, (.ldiv, 1)), (115, (.aload_n 0, 1)), (116, (.getfield 40, 3)), (119, (.getfield 209, 3)), (122, (.iload 4, 2)), (124, (.aaload, 1)), (125, (.invokevirtual 287, 3)), (128, (.iinc 4 1, 3)), (131, (.goto (-86), 3)), (134, (.aload_n 0, 1)), (135, (.getfield 26, 3)), (138, (.iconst 0, 1)), (139, (.aload_n 0, 1)), (140, (.getfield 23, 3)), (143, (.iload_n 3, 1)), (144, (.aaload, 1)), (145, (.iconst 0, 1)), (146, (.bipush 11, 2))] = true := by decide +kernel
theorem dX8_cut_102 : decode cX8_cut 102 = .ok (.ireturn, 1) := zdcg 0 zdT_dX8_cut_102 rfl
theorem dX8_cut_103 : decode cX8_cut 103 = .ok (.aload_n 0, 1) := zdcg 1 zdT_dX8_cut_102 rfl
theorem dX8_cut_104 : decode cX8_cut 104 = .ok (.lload 5, 2) := zdcg 2 zdT_dX8_cut_102 rfl
theorem dX8_cut_106 : decode cX8_cut 106 = .ok (.aload_n 0, 1) := zdcg 3 zdT_dX8_cut_102 rfl
theorem dX8_cut_107 : decode cX8_cut 107 = .ok (.getfield 40, 3) := zdcg 4 zdT_dX8_cut_102 rfl
theorem dX8_cut_110 : decode cX8_cut 110 = .ok (.getfield 266, 3) := zdcg 5 zdT_dX8_cut_102 rfl
theorem dX8_cut_113 : decode cX8_cut 113 = .ok (.i2l, 1) := zdcg 6 zdT_dX8_cut_102 rfl
theorem dX8_cut_114 : decode cX8_cut 114 = .ok (.ldiv, 1) := zdcg 7 zdT_dX8_cut_102 rfl
theorem dX8_cut_115 : decode cX8_cut 115 = .ok (.aload_n 0, 1) := zdcg 8 zdT_dX8_cut_102 rfl
theorem dX8_cut_116 : decode cX8_cut 116 = .ok (.getfield 40, 3) := zdcg 9 zdT_dX8_cut_102 rfl
theorem dX8_cut_119 : decode cX8_cut 119 = .ok (.getfield 209, 3) := zdcg 10 zdT_dX8_cut_102 rfl
theorem dX8_cut_122 : decode cX8_cut 122 = .ok (.iload 4, 2) := zdcg 11 zdT_dX8_cut_102 rfl
theorem dX8_cut_124 : decode cX8_cut 124 = .ok (.aaload, 1) := zdcg 12 zdT_dX8_cut_102 rfl
theorem dX8_cut_125 : decode cX8_cut 125 = .ok (.invokevirtual 287, 3) := zdcg 13 zdT_dX8_cut_102 rfl
theorem dX8_cut_128 : decode cX8_cut 128 = .ok (.iinc 4 1, 3) := zdcg 14 zdT_dX8_cut_102 rfl
theorem dX8_cut_131 : decode cX8_cut 131 = .ok (.goto (-86), 3) := zdcg 15 zdT_dX8_cut_102 rfl
theorem dX8_cut_134 : decode cX8_cut 134 = .ok (.aload_n 0, 1) := zdcg 16 zdT_dX8_cut_102 rfl
theorem dX8_cut_135 : decode cX8_cut 135 = .ok (.getfield 26, 3) := zdcg 17 zdT_dX8_cut_102 rfl
theorem dX8_cut_138 : decode cX8_cut 138 = .ok (.iconst 0, 1) := zdcg 18 zdT_dX8_cut_102 rfl
theorem dX8_cut_139 : decode cX8_cut 139 = .ok (.aload_n 0, 1) := zdcg 19 zdT_dX8_cut_102 rfl
theorem dX8_cut_140 : decode cX8_cut 140 = .ok (.getfield 23, 3) := zdcg 20 zdT_dX8_cut_102 rfl
theorem dX8_cut_143 : decode cX8_cut 143 = .ok (.iload_n 3, 1) := zdcg 21 zdT_dX8_cut_102 rfl
theorem dX8_cut_144 : decode cX8_cut 144 = .ok (.aaload, 1) := zdcg 22 zdT_dX8_cut_102 rfl
theorem dX8_cut_145 : decode cX8_cut 145 = .ok (.iconst 0, 1) := zdcg 23 zdT_dX8_cut_102 rfl
theorem dX8_cut_146 : decode cX8_cut 146 = .ok (.bipush 11, 2) := zdcg 24 zdT_dX8_cut_102 rfl
theorem zdT_dX8_cut_148 : zdch cX8_cut [(148, (.invokestatic 107, 3)), (151, (.iconst 0, 1)), (152, (.ireturn, 1))] = true := by decide +kernel
theorem dX8_cut_148 : decode cX8_cut 148 = .ok (.invokestatic 107, 3) := zdcg 0 zdT_dX8_cut_148 rfl
theorem dX8_cut_151 : decode cX8_cut 151 = .ok (.iconst 0, 1) := zdcg 1 zdT_dX8_cut_148 rfl
theorem dX8_cut_152 : decode cX8_cut 152 = .ok (.ireturn, 1) := zdcg 2 zdT_dX8_cut_148 rfl
theorem zdT_dX8_look_0 : zdch cX8_look [(0, (.iload_n 1, 1)), (1, (.tableswitch 126 0 8 #[51, 59, 67, 75, 83, 94, 102, 110, 115], 51)), (52, (.aload_n 0, 1)), (53, (.getfield 40, 3)), (56, (.getfield 176, 3)), (59, (.ireturn, 1)), (60, (.aload_n 0, 1)), (61, (.getfield 47, 3)), (64, (.getfield 179, 3)), (67, (.ireturn, 1)), (68, (.aload_n 0, 1)), (69, (.getfield 40, 3)), (72, (.getfield 74, 3)), (75, (.ireturn, 1)), (76, (.aload_n 0, 1)), (77, (.getfield 47, 3)), (80, (.getfield 291, 3)), (83, (.ireturn, 1)), (84, (.aload_n 0, 1)), (85, (.getfield 47, 3)), (88, (.getfield 152, 3)), (91, (.getfield 236, 3)), (94, (.ireturn, 1)), (95, (.aload_n 0, 1)), (96, (.getfield 40, 3))] = true := by decide +kernel
theorem dX8_look_0 : decode cX8_look 0 = .ok (.iload_n 1, 1) := zdcg 0 zdT_dX8_look_0 rfl
theorem dX8_look_1 : decode cX8_look 1 = .ok (.tableswitch 126 0 8 #[51, 59, 67, 75, 83, 94, 102, 110, 115], 51) := zdcg 1 zdT_dX8_look_0 rfl
theorem dX8_look_52 : decode cX8_look 52 = .ok (.aload_n 0, 1) := zdcg 2 zdT_dX8_look_0 rfl
theorem dX8_look_53 : decode cX8_look 53 = .ok (.getfield 40, 3) := zdcg 3 zdT_dX8_look_0 rfl
theorem dX8_look_56 : decode cX8_look 56 = .ok (.getfield 176, 3) := zdcg 4 zdT_dX8_look_0 rfl
theorem dX8_look_59 : decode cX8_look 59 = .ok (.ireturn, 1) := zdcg 5 zdT_dX8_look_0 rfl
theorem dX8_look_60 : decode cX8_look 60 = .ok (.aload_n 0, 1) := zdcg 6 zdT_dX8_look_0 rfl
theorem dX8_look_61 : decode cX8_look 61 = .ok (.getfield 47, 3) := zdcg 7 zdT_dX8_look_0 rfl
theorem dX8_look_64 : decode cX8_look 64 = .ok (.getfield 179, 3) := zdcg 8 zdT_dX8_look_0 rfl
theorem dX8_look_67 : decode cX8_look 67 = .ok (.ireturn, 1) := zdcg 9 zdT_dX8_look_0 rfl
theorem dX8_look_68 : decode cX8_look 68 = .ok (.aload_n 0, 1) := zdcg 10 zdT_dX8_look_0 rfl
theorem dX8_look_69 : decode cX8_look 69 = .ok (.getfield 40, 3) := zdcg 11 zdT_dX8_look_0 rfl
theorem dX8_look_72 : decode cX8_look 72 = .ok (.getfield 74, 3) := zdcg 12 zdT_dX8_look_0 rfl
theorem dX8_look_75 : decode cX8_look 75 = .ok (.ireturn, 1) := zdcg 13 zdT_dX8_look_0 rfl
theorem dX8_look_76 : decode cX8_look 76 = .ok (.aload_n 0, 1) := zdcg 14 zdT_dX8_look_0 rfl
theorem dX8_look_77 : decode cX8_look 77 = .ok (.getfield 47, 3) := zdcg 15 zdT_dX8_look_0 rfl
theorem dX8_look_80 : decode cX8_look 80 = .ok (.getfield 291, 3) := zdcg 16 zdT_dX8_look_0 rfl
theorem dX8_look_83 : decode cX8_look 83 = .ok (.ireturn, 1) := zdcg 17 zdT_dX8_look_0 rfl
theorem dX8_look_84 : decode cX8_look 84 = .ok (.aload_n 0, 1) := zdcg 18 zdT_dX8_look_0 rfl
theorem dX8_look_85 : decode cX8_look 85 = .ok (.getfield 47, 3) := zdcg 19 zdT_dX8_look_0 rfl
theorem dX8_look_88 : decode cX8_look 88 = .ok (.getfield 152, 3) := zdcg 20 zdT_dX8_look_0 rfl
theorem dX8_look_91 : decode cX8_look 91 = .ok (.getfield 236, 3) := zdcg 21 zdT_dX8_look_0 rfl
theorem dX8_look_94 : decode cX8_look 94 = .ok (.ireturn, 1) := zdcg 22 zdT_dX8_look_0 rfl
theorem dX8_look_95 : decode cX8_look 95 = .ok (.aload_n 0, 1) := zdcg 23 zdT_dX8_look_0 rfl
theorem dX8_look_96 : decode cX8_look 96 = .ok (.getfield 40, 3) := zdcg 24 zdT_dX8_look_0 rfl
theorem zdT_dX8_look_99 : zdch cX8_look [(99, (.getfield 266, 3)), (102, (.ireturn, 1)), (103, (.aload_n 0, 1)), (104, (.getfield 33, 3)), (107, (.getfield 85, 3)), (110, (.ireturn, 1)), (111, (.aload_n 0, 1)), (112, (.invokevirtual 294, 3)), (115, (.ireturn, 1)), (116, (.aload_n 0, 1)), (117, (.getfield 47, 3)), (120, (.getfield 152, 3)), (123, (.invokevirtual 298, 3)), (126, (.ireturn, 1)), (127, (.iconst (-1), 1)), (128, (.ireturn, 1))] = true := by decide +kernel
theorem dX8_look_99 : decode cX8_look 99 = .ok (.getfield 266, 3) := zdcg 0 zdT_dX8_look_99 rfl
theorem dX8_look_102 : decode cX8_look 102 = .ok (.ireturn, 1) := zdcg 1 zdT_dX8_look_99 rfl
theorem dX8_look_103 : decode cX8_look 103 = .ok (.aload_n 0, 1) := zdcg 2 zdT_dX8_look_99 rfl
theorem dX8_look_104 : decode cX8_look 104 = .ok (.getfield 33, 3) := zdcg 3 zdT_dX8_look_99 rfl
theorem dX8_look_107 : decode cX8_look 107 = .ok (.getfield 85, 3) := zdcg 4 zdT_dX8_look_99 rfl
theorem dX8_look_110 : decode cX8_look 110 = .ok (.ireturn, 1) := zdcg 5 zdT_dX8_look_99 rfl
theorem dX8_look_111 : decode cX8_look 111 = .ok (.aload_n 0, 1) := zdcg 6 zdT_dX8_look_99 rfl
theorem dX8_look_112 : decode cX8_look 112 = .ok (.invokevirtual 294, 3) := zdcg 7 zdT_dX8_look_99 rfl
theorem dX8_look_115 : decode cX8_look 115 = .ok (.ireturn, 1) := zdcg 8 zdT_dX8_look_99 rfl
theorem dX8_look_116 : decode cX8_look 116 = .ok (.aload_n 0, 1) := zdcg 9 zdT_dX8_look_99 rfl
theorem dX8_look_117 : decode cX8_look 117 = .ok (.getfield 47, 3) := zdcg 10 zdT_dX8_look_99 rfl
theorem dX8_look_120 : decode cX8_look 120 = .ok (.getfield 152, 3) := zdcg 11 zdT_dX8_look_99 rfl
theorem dX8_look_123 : decode cX8_look 123 = .ok (.invokevirtual 298, 3) := zdcg 12 zdT_dX8_look_99 rfl
theorem dX8_look_126 : decode cX8_look 126 = .ok (.ireturn, 1) := zdcg 13 zdT_dX8_look_99 rfl
theorem dX8_look_127 : decode cX8_look 127 = .ok (.iconst (-1), 1) := zdcg 14 zdT_dX8_look_99 rfl
theorem dX8_look_128 : decode cX8_look 128 = .ok (.ireturn, 1) := zdcg 15 zdT_dX8_look_99 rfl
theorem zdT_dX8_isPartition_0 : zdch cX8_isPartition [(0, (.iload_n 1, 1)), (1, (.ifCond .lt 18, 3)), (4, (.iload_n 1, 1)), (5, (.aload_n 0, 1)), (6, (.getfield 40, 3)), (9, (.getfield 74, 3)), (12, (.if_icmp .ge 7, 3)), (15, (.iconst 1, 1)), (16, (.goto 4, 3)), (19, (.iconst 0, 1)), (20, (.ireturn, 1))] = true := by decide +kernel
theorem dX8_isPartition_0 : decode cX8_isPartition 0 = .ok (.iload_n 1, 1) := zdcg 0 zdT_dX8_isPartition_0 rfl
theorem dX8_isPartition_1 : decode cX8_isPartition 1 = .ok (.ifCond .lt 18, 3) := zdcg 1 zdT_dX8_isPartition_0 rfl
theorem dX8_isPartition_4 : decode cX8_isPartition 4 = .ok (.iload_n 1, 1) := zdcg 2 zdT_dX8_isPartition_0 rfl
theorem dX8_isPartition_5 : decode cX8_isPartition 5 = .ok (.aload_n 0, 1) := zdcg 3 zdT_dX8_isPartition_0 rfl
theorem dX8_isPartition_6 : decode cX8_isPartition 6 = .ok (.getfield 40, 3) := zdcg 4 zdT_dX8_isPartition_0 rfl
theorem dX8_isPartition_9 : decode cX8_isPartition 9 = .ok (.getfield 74, 3) := zdcg 5 zdT_dX8_isPartition_0 rfl
theorem dX8_isPartition_12 : decode cX8_isPartition 12 = .ok (.if_icmp .ge 7, 3) := zdcg 6 zdT_dX8_isPartition_0 rfl
theorem dX8_isPartition_15 : decode cX8_isPartition 15 = .ok (.iconst 1, 1) := zdcg 7 zdT_dX8_isPartition_0 rfl
theorem dX8_isPartition_16 : decode cX8_isPartition 16 = .ok (.goto 4, 3) := zdcg 8 zdT_dX8_isPartition_0 rfl
theorem dX8_isPartition_19 : decode cX8_isPartition 19 = .ok (.iconst 0, 1) := zdcg 9 zdT_dX8_isPartition_0 rfl
theorem dX8_isPartition_20 : decode cX8_isPartition 20 = .ok (.ireturn, 1) := zdcg 10 zdT_dX8_isPartition_0 rfl
theorem zdT_dX8_isRegularPartition_0 : zdch cX8_isRegularPartition [(0, (.aload_n 0, 1)), (1, (.iload_n 1, 1)), (2, (.invokevirtual 126, 3)), (5, (.ifCond .eq 18, 3)), (8, (.aload_n 0, 1)), (9, (.getfield 47, 3)), (12, (.iload_n 1, 1)), (13, (.invokevirtual 145, 3)), (16, (.ifCond .eq 7, 3)), (19, (.iconst 1, 1)), (20, (.goto 4, 3)), (23, (.iconst 0, 1)), (24, (.ireturn, 1))] = true := by decide +kernel
theorem dX8_isRegularPartition_0 : decode cX8_isRegularPartition 0 = .ok (.aload_n 0, 1) := zdcg 0 zdT_dX8_isRegularPartition_0 rfl
theorem dX8_isRegularPartition_1 : decode cX8_isRegularPartition 1 = .ok (.iload_n 1, 1) := zdcg 1 zdT_dX8_isRegularPartition_0 rfl
theorem dX8_isRegularPartition_2 : decode cX8_isRegularPartition 2 = .ok (.invokevirtual 126, 3) := zdcg 2 zdT_dX8_isRegularPartition_0 rfl
theorem dX8_isRegularPartition_5 : decode cX8_isRegularPartition 5 = .ok (.ifCond .eq 18, 3) := zdcg 3 zdT_dX8_isRegularPartition_0 rfl
theorem dX8_isRegularPartition_8 : decode cX8_isRegularPartition 8 = .ok (.aload_n 0, 1) := zdcg 4 zdT_dX8_isRegularPartition_0 rfl
theorem dX8_isRegularPartition_9 : decode cX8_isRegularPartition 9 = .ok (.getfield 47, 3) := zdcg 5 zdT_dX8_isRegularPartition_0 rfl
theorem dX8_isRegularPartition_12 : decode cX8_isRegularPartition 12 = .ok (.iload_n 1, 1) := zdcg 6 zdT_dX8_isRegularPartition_0 rfl
theorem dX8_isRegularPartition_13 : decode cX8_isRegularPartition 13 = .ok (.invokevirtual 145, 3) := zdcg 7 zdT_dX8_isRegularPartition_0 rfl
theorem dX8_isRegularPartition_16 : decode cX8_isRegularPartition 16 = .ok (.ifCond .eq 7, 3) := zdcg 8 zdT_dX8_isRegularPartition_0 rfl
theorem dX8_isRegularPartition_19 : decode cX8_isRegularPartition 19 = .ok (.iconst 1, 1) := zdcg 9 zdT_dX8_isRegularPartition_0 rfl
theorem dX8_isRegularPartition_20 : decode cX8_isRegularPartition 20 = .ok (.goto 4, 3) := zdcg 10 zdT_dX8_isRegularPartition_0 rfl
theorem dX8_isRegularPartition_23 : decode cX8_isRegularPartition 23 = .ok (.iconst 0, 1) := zdcg 11 zdT_dX8_isRegularPartition_0 rfl
theorem dX8_isRegularPartition_24 : decode cX8_isRegularPartition 24 = .ok (.ireturn, 1) := zdcg 12 zdT_dX8_isRegularPartition_0 rfl
theorem zdT_dX8_slotsInUse_0 : zdch cX8_slotsInUse [(0, (.iconst 0, 1)), (1, (.istore_n 1, 1)), (2, (.iconst 0, 1)), (3, (.istore_n 2, 1)), (4, (.iload_n 2, 1)), (5, (.bipush 6, 2)), (7, (.if_icmp .ge 47, 3)), (10, (.iconst 0, 1)), (11, (.istore_n 3, 1)), (12, (.iload_n 3, 1)), (13, (.aload_n 0, 1)), (14, (.getfield 40, 3)), (17, (.getfield 74, 3)), (20, (.if_icmp .ge 28, 3)), (23, (.aload_n 0, 1)), (24, (.getfield 23, 3)), (27, (.iload_n 2, 1)), (28, (.aaload, 1)), (29, (.iload_n 3, 1)), (30, (.laload, 1)), (31, (.lconst 0, 1)), (32, (.lcmp, 1)), (33, (.ifCond .eq 9, 3)), (36, (.iload_n 1, 1)), (37, (.iconst 1, 1))] = true := by decide +kernel
theorem dX8_slotsInUse_0 : decode cX8_slotsInUse 0 = .ok (.iconst 0, 1) := zdcg 0 zdT_dX8_slotsInUse_0 rfl
theorem dX8_slotsInUse_1 : decode cX8_slotsInUse 1 = .ok (.istore_n 1, 1) := zdcg 1 zdT_dX8_slotsInUse_0 rfl
theorem dX8_slotsInUse_2 : decode cX8_slotsInUse 2 = .ok (.iconst 0, 1) := zdcg 2 zdT_dX8_slotsInUse_0 rfl
theorem dX8_slotsInUse_3 : decode cX8_slotsInUse 3 = .ok (.istore_n 2, 1) := zdcg 3 zdT_dX8_slotsInUse_0 rfl
theorem dX8_slotsInUse_4 : decode cX8_slotsInUse 4 = .ok (.iload_n 2, 1) := zdcg 4 zdT_dX8_slotsInUse_0 rfl
theorem dX8_slotsInUse_5 : decode cX8_slotsInUse 5 = .ok (.bipush 6, 2) := zdcg 5 zdT_dX8_slotsInUse_0 rfl
theorem dX8_slotsInUse_7 : decode cX8_slotsInUse 7 = .ok (.if_icmp .ge 47, 3) := zdcg 6 zdT_dX8_slotsInUse_0 rfl
theorem dX8_slotsInUse_10 : decode cX8_slotsInUse 10 = .ok (.iconst 0, 1) := zdcg 7 zdT_dX8_slotsInUse_0 rfl
theorem dX8_slotsInUse_11 : decode cX8_slotsInUse 11 = .ok (.istore_n 3, 1) := zdcg 8 zdT_dX8_slotsInUse_0 rfl
theorem dX8_slotsInUse_12 : decode cX8_slotsInUse 12 = .ok (.iload_n 3, 1) := zdcg 9 zdT_dX8_slotsInUse_0 rfl
theorem dX8_slotsInUse_13 : decode cX8_slotsInUse 13 = .ok (.aload_n 0, 1) := zdcg 10 zdT_dX8_slotsInUse_0 rfl
theorem dX8_slotsInUse_14 : decode cX8_slotsInUse 14 = .ok (.getfield 40, 3) := zdcg 11 zdT_dX8_slotsInUse_0 rfl
theorem dX8_slotsInUse_17 : decode cX8_slotsInUse 17 = .ok (.getfield 74, 3) := zdcg 12 zdT_dX8_slotsInUse_0 rfl
theorem dX8_slotsInUse_20 : decode cX8_slotsInUse 20 = .ok (.if_icmp .ge 28, 3) := zdcg 13 zdT_dX8_slotsInUse_0 rfl
theorem dX8_slotsInUse_23 : decode cX8_slotsInUse 23 = .ok (.aload_n 0, 1) := zdcg 14 zdT_dX8_slotsInUse_0 rfl
theorem dX8_slotsInUse_24 : decode cX8_slotsInUse 24 = .ok (.getfield 23, 3) := zdcg 15 zdT_dX8_slotsInUse_0 rfl
theorem dX8_slotsInUse_27 : decode cX8_slotsInUse 27 = .ok (.iload_n 2, 1) := zdcg 16 zdT_dX8_slotsInUse_0 rfl
theorem dX8_slotsInUse_28 : decode cX8_slotsInUse 28 = .ok (.aaload, 1) := zdcg 17 zdT_dX8_slotsInUse_0 rfl
theorem dX8_slotsInUse_29 : decode cX8_slotsInUse 29 = .ok (.iload_n 3, 1) := zdcg 18 zdT_dX8_slotsInUse_0 rfl
theorem dX8_slotsInUse_30 : decode cX8_slotsInUse 30 = .ok (.laload, 1) := zdcg 19 zdT_dX8_slotsInUse_0 rfl
theorem dX8_slotsInUse_31 : decode cX8_slotsInUse 31 = .ok (.lconst 0, 1) := zdcg 20 zdT_dX8_slotsInUse_0 rfl
theorem dX8_slotsInUse_32 : decode cX8_slotsInUse 32 = .ok (.lcmp, 1) := zdcg 21 zdT_dX8_slotsInUse_0 rfl
theorem dX8_slotsInUse_33 : decode cX8_slotsInUse 33 = .ok (.ifCond .eq 9, 3) := zdcg 22 zdT_dX8_slotsInUse_0 rfl
theorem dX8_slotsInUse_36 : decode cX8_slotsInUse 36 = .ok (.iload_n 1, 1) := zdcg 23 zdT_dX8_slotsInUse_0 rfl
theorem dX8_slotsInUse_37 : decode cX8_slotsInUse 37 = .ok (.iconst 1, 1) := zdcg 24 zdT_dX8_slotsInUse_0 rfl
theorem zdT_dX8_slotsInUse_38 : zdch cX8_slotsInUse [(38, (.iload_n 2, 1)), (39, (.ishl, 1)), (40, (.ior, 1)), (41, (.istore_n 1, 1)), (42, (.iinc 3 1, 3)), (45, (.goto (-33), 3)), (48, (.iinc 2 1, 3)), (51, (.goto (-47), 3)), (54, (.iload_n 1, 1)), (55, (.ireturn, 1))] = true := by decide +kernel
theorem dX8_slotsInUse_38 : decode cX8_slotsInUse 38 = .ok (.iload_n 2, 1) := zdcg 0 zdT_dX8_slotsInUse_38 rfl
theorem dX8_slotsInUse_39 : decode cX8_slotsInUse 39 = .ok (.ishl, 1) := zdcg 1 zdT_dX8_slotsInUse_38 rfl
theorem dX8_slotsInUse_40 : decode cX8_slotsInUse 40 = .ok (.ior, 1) := zdcg 2 zdT_dX8_slotsInUse_38 rfl
theorem dX8_slotsInUse_41 : decode cX8_slotsInUse 41 = .ok (.istore_n 1, 1) := zdcg 3 zdT_dX8_slotsInUse_38 rfl
theorem dX8_slotsInUse_42 : decode cX8_slotsInUse 42 = .ok (.iinc 3 1, 3) := zdcg 4 zdT_dX8_slotsInUse_38 rfl
theorem dX8_slotsInUse_45 : decode cX8_slotsInUse 45 = .ok (.goto (-33), 3) := zdcg 5 zdT_dX8_slotsInUse_38 rfl
theorem dX8_slotsInUse_48 : decode cX8_slotsInUse 48 = .ok (.iinc 2 1, 3) := zdcg 6 zdT_dX8_slotsInUse_38 rfl
theorem dX8_slotsInUse_51 : decode cX8_slotsInUse 51 = .ok (.goto (-47), 3) := zdcg 7 zdT_dX8_slotsInUse_38 rfl
theorem dX8_slotsInUse_54 : decode cX8_slotsInUse 54 = .ok (.iload_n 1, 1) := zdcg 8 zdT_dX8_slotsInUse_38 rfl
theorem dX8_slotsInUse_55 : decode cX8_slotsInUse 55 = .ok (.ireturn, 1) := zdcg 9 zdT_dX8_slotsInUse_38 rfl
theorem zdT_dX8_isZeroOffRegular_0 : zdch cX8_isZeroOffRegular [(0, (.iconst 0, 1)), (1, (.istore_n 2, 1)), (2, (.iload_n 2, 1)), (3, (.aload_n 0, 1)), (4, (.getfield 40, 3)), (7, (.getfield 74, 3)), (10, (.if_icmp .ge 31, 3)), (13, (.aload_n 0, 1)), (14, (.getfield 47, 3)), (17, (.getfield 199, 3)), (20, (.iload_n 2, 1)), (21, (.baload, 1)), (22, (.ifCond .ne 13, 3)), (25, (.aload_n 1, 1)), (26, (.iload_n 2, 1)), (27, (.laload, 1)), (28, (.lconst 0, 1)), (29, (.lcmp, 1)), (30, (.ifCond .eq 5, 3)), (33, (.iconst 0, 1)), (34, (.ireturn, 1)), (35, (.iinc 2 1, 3)), (38, (.goto (-36), 3)), (41, (.iconst 1, 1)), (42, (.ireturn, 1))] = true := by decide +kernel
theorem dX8_isZeroOffRegular_0 : decode cX8_isZeroOffRegular 0 = .ok (.iconst 0, 1) := zdcg 0 zdT_dX8_isZeroOffRegular_0 rfl
theorem dX8_isZeroOffRegular_1 : decode cX8_isZeroOffRegular 1 = .ok (.istore_n 2, 1) := zdcg 1 zdT_dX8_isZeroOffRegular_0 rfl
theorem dX8_isZeroOffRegular_2 : decode cX8_isZeroOffRegular 2 = .ok (.iload_n 2, 1) := zdcg 2 zdT_dX8_isZeroOffRegular_0 rfl
theorem dX8_isZeroOffRegular_3 : decode cX8_isZeroOffRegular 3 = .ok (.aload_n 0, 1) := zdcg 3 zdT_dX8_isZeroOffRegular_0 rfl
theorem dX8_isZeroOffRegular_4 : decode cX8_isZeroOffRegular 4 = .ok (.getfield 40, 3) := zdcg 4 zdT_dX8_isZeroOffRegular_0 rfl
theorem dX8_isZeroOffRegular_7 : decode cX8_isZeroOffRegular 7 = .ok (.getfield 74, 3) := zdcg 5 zdT_dX8_isZeroOffRegular_0 rfl
theorem dX8_isZeroOffRegular_10 : decode cX8_isZeroOffRegular 10 = .ok (.if_icmp .ge 31, 3) := zdcg 6 zdT_dX8_isZeroOffRegular_0 rfl
theorem dX8_isZeroOffRegular_13 : decode cX8_isZeroOffRegular 13 = .ok (.aload_n 0, 1) := zdcg 7 zdT_dX8_isZeroOffRegular_0 rfl
theorem dX8_isZeroOffRegular_14 : decode cX8_isZeroOffRegular 14 = .ok (.getfield 47, 3) := zdcg 8 zdT_dX8_isZeroOffRegular_0 rfl
theorem dX8_isZeroOffRegular_17 : decode cX8_isZeroOffRegular 17 = .ok (.getfield 199, 3) := zdcg 9 zdT_dX8_isZeroOffRegular_0 rfl
theorem dX8_isZeroOffRegular_20 : decode cX8_isZeroOffRegular 20 = .ok (.iload_n 2, 1) := zdcg 10 zdT_dX8_isZeroOffRegular_0 rfl
theorem dX8_isZeroOffRegular_21 : decode cX8_isZeroOffRegular 21 = .ok (.baload, 1) := zdcg 11 zdT_dX8_isZeroOffRegular_0 rfl
theorem dX8_isZeroOffRegular_22 : decode cX8_isZeroOffRegular 22 = .ok (.ifCond .ne 13, 3) := zdcg 12 zdT_dX8_isZeroOffRegular_0 rfl
theorem dX8_isZeroOffRegular_25 : decode cX8_isZeroOffRegular 25 = .ok (.aload_n 1, 1) := zdcg 13 zdT_dX8_isZeroOffRegular_0 rfl
theorem dX8_isZeroOffRegular_26 : decode cX8_isZeroOffRegular 26 = .ok (.iload_n 2, 1) := zdcg 14 zdT_dX8_isZeroOffRegular_0 rfl
theorem dX8_isZeroOffRegular_27 : decode cX8_isZeroOffRegular 27 = .ok (.laload, 1) := zdcg 15 zdT_dX8_isZeroOffRegular_0 rfl
theorem dX8_isZeroOffRegular_28 : decode cX8_isZeroOffRegular 28 = .ok (.lconst 0, 1) := zdcg 16 zdT_dX8_isZeroOffRegular_0 rfl
theorem dX8_isZeroOffRegular_29 : decode cX8_isZeroOffRegular 29 = .ok (.lcmp, 1) := zdcg 17 zdT_dX8_isZeroOffRegular_0 rfl
theorem dX8_isZeroOffRegular_30 : decode cX8_isZeroOffRegular 30 = .ok (.ifCond .eq 5, 3) := zdcg 18 zdT_dX8_isZeroOffRegular_0 rfl
theorem dX8_isZeroOffRegular_33 : decode cX8_isZeroOffRegular 33 = .ok (.iconst 0, 1) := zdcg 19 zdT_dX8_isZeroOffRegular_0 rfl
theorem dX8_isZeroOffRegular_34 : decode cX8_isZeroOffRegular 34 = .ok (.ireturn, 1) := zdcg 20 zdT_dX8_isZeroOffRegular_0 rfl
theorem dX8_isZeroOffRegular_35 : decode cX8_isZeroOffRegular 35 = .ok (.iinc 2 1, 3) := zdcg 21 zdT_dX8_isZeroOffRegular_0 rfl
theorem dX8_isZeroOffRegular_38 : decode cX8_isZeroOffRegular 38 = .ok (.goto (-36), 3) := zdcg 22 zdT_dX8_isZeroOffRegular_0 rfl
theorem dX8_isZeroOffRegular_41 : decode cX8_isZeroOffRegular 41 = .ok (.iconst 1, 1) := zdcg 23 zdT_dX8_isZeroOffRegular_0 rfl
theorem dX8_isZeroOffRegular_42 : decode cX8_isZeroOffRegular 42 = .ok (.ireturn, 1) := zdcg 24 zdT_dX8_isZeroOffRegular_0 rfl
theorem zdT_dX8_isWhole_0 : zdch cX8_isWhole [(0, (.iconst 0, 1)), (1, (.istore 4, 2)), (3, (.iload 4, 2)), (5, (.aload_n 0, 1)), (6, (.getfield 40, 3)), (9, (.getfield 74, 3)), (12, (.if_icmp .ge 60, 3)), (15, (.iload_n 2, 1)), (16, (.ifCond .eq 18, 3)), (19, (.aload_n 0, 1)), (20, (.getfield 47, 3)), (23, (.iload 4, 2)), (25, (.invokevirtual 145, 3)), (28, (.ifCond .ne 6, 3)), (31, (.goto 35, 3)), (34, (.aload_n 0, 1)), (35, (.aload_n 1, 1)), (36, (.iload 4, 2)), (38, (.iload_n 2, 1)), (39, (.invokevirtual 256, 3)), (42, (.lstore 5, 2)), (44, (.aload_n 0, 1)), (45, (.lload 5, 2)), (47, (.invokevirtual 283, 3)), (50, (.ifCond .eq 14, 3))] = true := by decide +kernel
theorem dX8_isWhole_0 : decode cX8_isWhole 0 = .ok (.iconst 0, 1) := zdcg 0 zdT_dX8_isWhole_0 rfl
theorem dX8_isWhole_1 : decode cX8_isWhole 1 = .ok (.istore 4, 2) := zdcg 1 zdT_dX8_isWhole_0 rfl
theorem dX8_isWhole_3 : decode cX8_isWhole 3 = .ok (.iload 4, 2) := zdcg 2 zdT_dX8_isWhole_0 rfl
theorem dX8_isWhole_5 : decode cX8_isWhole 5 = .ok (.aload_n 0, 1) := zdcg 3 zdT_dX8_isWhole_0 rfl
theorem dX8_isWhole_6 : decode cX8_isWhole 6 = .ok (.getfield 40, 3) := zdcg 4 zdT_dX8_isWhole_0 rfl
theorem dX8_isWhole_9 : decode cX8_isWhole 9 = .ok (.getfield 74, 3) := zdcg 5 zdT_dX8_isWhole_0 rfl
theorem dX8_isWhole_12 : decode cX8_isWhole 12 = .ok (.if_icmp .ge 60, 3) := zdcg 6 zdT_dX8_isWhole_0 rfl
theorem dX8_isWhole_15 : decode cX8_isWhole 15 = .ok (.iload_n 2, 1) := zdcg 7 zdT_dX8_isWhole_0 rfl
theorem dX8_isWhole_16 : decode cX8_isWhole 16 = .ok (.ifCond .eq 18, 3) := zdcg 8 zdT_dX8_isWhole_0 rfl
theorem dX8_isWhole_19 : decode cX8_isWhole 19 = .ok (.aload_n 0, 1) := zdcg 9 zdT_dX8_isWhole_0 rfl
theorem dX8_isWhole_20 : decode cX8_isWhole 20 = .ok (.getfield 47, 3) := zdcg 10 zdT_dX8_isWhole_0 rfl
theorem dX8_isWhole_23 : decode cX8_isWhole 23 = .ok (.iload 4, 2) := zdcg 11 zdT_dX8_isWhole_0 rfl
theorem dX8_isWhole_25 : decode cX8_isWhole 25 = .ok (.invokevirtual 145, 3) := zdcg 12 zdT_dX8_isWhole_0 rfl
theorem dX8_isWhole_28 : decode cX8_isWhole 28 = .ok (.ifCond .ne 6, 3) := zdcg 13 zdT_dX8_isWhole_0 rfl
theorem dX8_isWhole_31 : decode cX8_isWhole 31 = .ok (.goto 35, 3) := zdcg 14 zdT_dX8_isWhole_0 rfl
theorem dX8_isWhole_34 : decode cX8_isWhole 34 = .ok (.aload_n 0, 1) := zdcg 15 zdT_dX8_isWhole_0 rfl
theorem dX8_isWhole_35 : decode cX8_isWhole 35 = .ok (.aload_n 1, 1) := zdcg 16 zdT_dX8_isWhole_0 rfl
theorem dX8_isWhole_36 : decode cX8_isWhole 36 = .ok (.iload 4, 2) := zdcg 17 zdT_dX8_isWhole_0 rfl
theorem dX8_isWhole_38 : decode cX8_isWhole 38 = .ok (.iload_n 2, 1) := zdcg 18 zdT_dX8_isWhole_0 rfl
theorem dX8_isWhole_39 : decode cX8_isWhole 39 = .ok (.invokevirtual 256, 3) := zdcg 19 zdT_dX8_isWhole_0 rfl
theorem dX8_isWhole_42 : decode cX8_isWhole 42 = .ok (.lstore 5, 2) := zdcg 20 zdT_dX8_isWhole_0 rfl
theorem dX8_isWhole_44 : decode cX8_isWhole 44 = .ok (.aload_n 0, 1) := zdcg 21 zdT_dX8_isWhole_0 rfl
theorem dX8_isWhole_45 : decode cX8_isWhole 45 = .ok (.lload 5, 2) := zdcg 22 zdT_dX8_isWhole_0 rfl
theorem dX8_isWhole_47 : decode cX8_isWhole 47 = .ok (.invokevirtual 283, 3) := zdcg 23 zdT_dX8_isWhole_0 rfl
theorem dX8_isWhole_50 : decode cX8_isWhole 50 = .ok (.ifCond .eq 14, 3) := zdcg 24 zdT_dX8_isWhole_0 rfl
theorem zdT_dX8_isWhole_53 : zdch cX8_isWhole [(53, (.iload_n 3, 1)), (54, (.ifCond .eq 12, 3)), (57, (.lload 5, 2)), (59, (.lconst 0, 1)), (60, (.lcmp, 1)), (61, (.ifCond .ge 5, 3)), (64, (.iconst 0, 1)), (65, (.ireturn, 1)), (66, (.iinc 4 1, 3)), (69, (.goto (-66), 3)), (72, (.iconst 1, 1)), (73, (.ireturn, 1))] = true := by decide +kernel
theorem dX8_isWhole_53 : decode cX8_isWhole 53 = .ok (.iload_n 3, 1) := zdcg 0 zdT_dX8_isWhole_53 rfl
theorem dX8_isWhole_54 : decode cX8_isWhole 54 = .ok (.ifCond .eq 12, 3) := zdcg 1 zdT_dX8_isWhole_53 rfl
theorem dX8_isWhole_57 : decode cX8_isWhole 57 = .ok (.lload 5, 2) := zdcg 2 zdT_dX8_isWhole_53 rfl
theorem dX8_isWhole_59 : decode cX8_isWhole 59 = .ok (.lconst 0, 1) := zdcg 3 zdT_dX8_isWhole_53 rfl
theorem dX8_isWhole_60 : decode cX8_isWhole 60 = .ok (.lcmp, 1) := zdcg 4 zdT_dX8_isWhole_53 rfl
theorem dX8_isWhole_61 : decode cX8_isWhole 61 = .ok (.ifCond .ge 5, 3) := zdcg 5 zdT_dX8_isWhole_53 rfl
theorem dX8_isWhole_64 : decode cX8_isWhole 64 = .ok (.iconst 0, 1) := zdcg 6 zdT_dX8_isWhole_53 rfl
theorem dX8_isWhole_65 : decode cX8_isWhole 65 = .ok (.ireturn, 1) := zdcg 7 zdT_dX8_isWhole_53 rfl
theorem dX8_isWhole_66 : decode cX8_isWhole 66 = .ok (.iinc 4 1, 3) := zdcg 8 zdT_dX8_isWhole_53 rfl
theorem dX8_isWhole_69 : decode cX8_isWhole 69 = .ok (.goto (-66), 3) := zdcg 9 zdT_dX8_isWhole_53 rfl
theorem dX8_isWhole_72 : decode cX8_isWhole 72 = .ok (.iconst 1, 1) := zdcg 10 zdT_dX8_isWhole_53 rfl
theorem dX8_isWhole_73 : decode cX8_isWhole 73 = .ok (.ireturn, 1) := zdcg 11 zdT_dX8_isWhole_53 rfl
theorem zdT_dX8_timesFactorial_0 : zdch cX8_timesFactorial [(0, (.iload_n 3, 1)), (1, (.ifCond .eq 15, 3)), (4, (.aload_n 0, 1)), (5, (.getfield 47, 3)), (8, (.getfield 218, 3)), (11, (.iload_n 2, 1)), (12, (.aaload, 1)), (13, (.goto 12, 3)), (16, (.aload_n 0, 1)), (17, (.getfield 40, 3)), (20, (.getfield 209, 3)), (23, (.iload_n 2, 1)), (24, (.aaload, 1)), (25, (.astore 4, 2)), (27, (.lconst 0, 1)), (28, (.lstore 5, 2)), (30, (.iconst 0, 1)), (31, (.istore 7, 2)), (33, (.iload 7, 2)), (35, (.aload_n 0, 1)), (36, (.getfield 40, 3)), (39, (.getfield 74, 3)), (42, (.if_icmp .ge 37, 3)), (45, (.lload 5, 2)), (47, (.aload_n 1, 1))] = true := by decide +kernel
theorem dX8_timesFactorial_0 : decode cX8_timesFactorial 0 = .ok (.iload_n 3, 1) := zdcg 0 zdT_dX8_timesFactorial_0 rfl
theorem dX8_timesFactorial_1 : decode cX8_timesFactorial 1 = .ok (.ifCond .eq 15, 3) := zdcg 1 zdT_dX8_timesFactorial_0 rfl
theorem dX8_timesFactorial_4 : decode cX8_timesFactorial 4 = .ok (.aload_n 0, 1) := zdcg 2 zdT_dX8_timesFactorial_0 rfl
theorem dX8_timesFactorial_5 : decode cX8_timesFactorial 5 = .ok (.getfield 47, 3) := zdcg 3 zdT_dX8_timesFactorial_0 rfl
theorem dX8_timesFactorial_8 : decode cX8_timesFactorial 8 = .ok (.getfield 218, 3) := zdcg 4 zdT_dX8_timesFactorial_0 rfl
theorem dX8_timesFactorial_11 : decode cX8_timesFactorial 11 = .ok (.iload_n 2, 1) := zdcg 5 zdT_dX8_timesFactorial_0 rfl
theorem dX8_timesFactorial_12 : decode cX8_timesFactorial 12 = .ok (.aaload, 1) := zdcg 6 zdT_dX8_timesFactorial_0 rfl
theorem dX8_timesFactorial_13 : decode cX8_timesFactorial 13 = .ok (.goto 12, 3) := zdcg 7 zdT_dX8_timesFactorial_0 rfl
theorem dX8_timesFactorial_16 : decode cX8_timesFactorial 16 = .ok (.aload_n 0, 1) := zdcg 8 zdT_dX8_timesFactorial_0 rfl
theorem dX8_timesFactorial_17 : decode cX8_timesFactorial 17 = .ok (.getfield 40, 3) := zdcg 9 zdT_dX8_timesFactorial_0 rfl
theorem dX8_timesFactorial_20 : decode cX8_timesFactorial 20 = .ok (.getfield 209, 3) := zdcg 10 zdT_dX8_timesFactorial_0 rfl
theorem dX8_timesFactorial_23 : decode cX8_timesFactorial 23 = .ok (.iload_n 2, 1) := zdcg 11 zdT_dX8_timesFactorial_0 rfl
theorem dX8_timesFactorial_24 : decode cX8_timesFactorial 24 = .ok (.aaload, 1) := zdcg 12 zdT_dX8_timesFactorial_0 rfl
theorem dX8_timesFactorial_25 : decode cX8_timesFactorial 25 = .ok (.astore 4, 2) := zdcg 13 zdT_dX8_timesFactorial_0 rfl
theorem dX8_timesFactorial_27 : decode cX8_timesFactorial 27 = .ok (.lconst 0, 1) := zdcg 14 zdT_dX8_timesFactorial_0 rfl
theorem dX8_timesFactorial_28 : decode cX8_timesFactorial 28 = .ok (.lstore 5, 2) := zdcg 15 zdT_dX8_timesFactorial_0 rfl
theorem dX8_timesFactorial_30 : decode cX8_timesFactorial 30 = .ok (.iconst 0, 1) := zdcg 16 zdT_dX8_timesFactorial_0 rfl
theorem dX8_timesFactorial_31 : decode cX8_timesFactorial 31 = .ok (.istore 7, 2) := zdcg 17 zdT_dX8_timesFactorial_0 rfl
theorem dX8_timesFactorial_33 : decode cX8_timesFactorial 33 = .ok (.iload 7, 2) := zdcg 18 zdT_dX8_timesFactorial_0 rfl
theorem dX8_timesFactorial_35 : decode cX8_timesFactorial 35 = .ok (.aload_n 0, 1) := zdcg 19 zdT_dX8_timesFactorial_0 rfl
theorem dX8_timesFactorial_36 : decode cX8_timesFactorial 36 = .ok (.getfield 40, 3) := zdcg 20 zdT_dX8_timesFactorial_0 rfl
theorem dX8_timesFactorial_39 : decode cX8_timesFactorial 39 = .ok (.getfield 74, 3) := zdcg 21 zdT_dX8_timesFactorial_0 rfl
theorem dX8_timesFactorial_42 : decode cX8_timesFactorial 42 = .ok (.if_icmp .ge 37, 3) := zdcg 22 zdT_dX8_timesFactorial_0 rfl
theorem dX8_timesFactorial_45 : decode cX8_timesFactorial 45 = .ok (.lload 5, 2) := zdcg 23 zdT_dX8_timesFactorial_0 rfl
theorem dX8_timesFactorial_47 : decode cX8_timesFactorial 47 = .ok (.aload_n 1, 1) := zdcg 24 zdT_dX8_timesFactorial_0 rfl
theorem zdT_dX8_timesFactorial_48 : zdch cX8_timesFactorial [(48, (.iload 7, 2)), (50, (.laload, 1)), (51, (.aload_n 0, 1)), (52, (.getfield 40, 3)), (55, (.getfield 193, 3)), (58, (.iload 7, 2)), (60, (.iaload, 1)), (61, (.i2l, 1)), (62, (.lmul, 1)), (63, (.aload 4, 2)), (65, (.iload 7, 2)), (67, (.iaload, 1)), (68, (.i2l, 1)), (69, (.lmul, 1)), (70, (.ladd, 1)), (71, (.lstore 5, 2)), (73, (.iinc 7 1, 3)), (76, (.goto (-43), 3)), (79, (.lload 5, 2)), (81, (.lreturn, 1))] = true := by decide +kernel
theorem dX8_timesFactorial_48 : decode cX8_timesFactorial 48 = .ok (.iload 7, 2) := zdcg 0 zdT_dX8_timesFactorial_48 rfl
theorem dX8_timesFactorial_50 : decode cX8_timesFactorial 50 = .ok (.laload, 1) := zdcg 1 zdT_dX8_timesFactorial_48 rfl
theorem dX8_timesFactorial_51 : decode cX8_timesFactorial 51 = .ok (.aload_n 0, 1) := zdcg 2 zdT_dX8_timesFactorial_48 rfl
theorem dX8_timesFactorial_52 : decode cX8_timesFactorial 52 = .ok (.getfield 40, 3) := zdcg 3 zdT_dX8_timesFactorial_48 rfl
theorem dX8_timesFactorial_55 : decode cX8_timesFactorial 55 = .ok (.getfield 193, 3) := zdcg 4 zdT_dX8_timesFactorial_48 rfl
theorem dX8_timesFactorial_58 : decode cX8_timesFactorial 58 = .ok (.iload 7, 2) := zdcg 5 zdT_dX8_timesFactorial_48 rfl
theorem dX8_timesFactorial_60 : decode cX8_timesFactorial 60 = .ok (.iaload, 1) := zdcg 6 zdT_dX8_timesFactorial_48 rfl
theorem dX8_timesFactorial_61 : decode cX8_timesFactorial 61 = .ok (.i2l, 1) := zdcg 7 zdT_dX8_timesFactorial_48 rfl
theorem dX8_timesFactorial_62 : decode cX8_timesFactorial 62 = .ok (.lmul, 1) := zdcg 8 zdT_dX8_timesFactorial_48 rfl
theorem dX8_timesFactorial_63 : decode cX8_timesFactorial 63 = .ok (.aload 4, 2) := zdcg 9 zdT_dX8_timesFactorial_48 rfl
theorem dX8_timesFactorial_65 : decode cX8_timesFactorial 65 = .ok (.iload 7, 2) := zdcg 10 zdT_dX8_timesFactorial_48 rfl
theorem dX8_timesFactorial_67 : decode cX8_timesFactorial 67 = .ok (.iaload, 1) := zdcg 11 zdT_dX8_timesFactorial_48 rfl
theorem dX8_timesFactorial_68 : decode cX8_timesFactorial 68 = .ok (.i2l, 1) := zdcg 12 zdT_dX8_timesFactorial_48 rfl
theorem dX8_timesFactorial_69 : decode cX8_timesFactorial 69 = .ok (.lmul, 1) := zdcg 13 zdT_dX8_timesFactorial_48 rfl
theorem dX8_timesFactorial_70 : decode cX8_timesFactorial 70 = .ok (.ladd, 1) := zdcg 14 zdT_dX8_timesFactorial_48 rfl
theorem dX8_timesFactorial_71 : decode cX8_timesFactorial 71 = .ok (.lstore 5, 2) := zdcg 15 zdT_dX8_timesFactorial_48 rfl
theorem dX8_timesFactorial_73 : decode cX8_timesFactorial 73 = .ok (.iinc 7 1, 3) := zdcg 16 zdT_dX8_timesFactorial_48 rfl
theorem dX8_timesFactorial_76 : decode cX8_timesFactorial 76 = .ok (.goto (-43), 3) := zdcg 17 zdT_dX8_timesFactorial_48 rfl
theorem dX8_timesFactorial_79 : decode cX8_timesFactorial 79 = .ok (.lload 5, 2) := zdcg 18 zdT_dX8_timesFactorial_48 rfl
theorem dX8_timesFactorial_81 : decode cX8_timesFactorial 81 = .ok (.lreturn, 1) := zdcg 19 zdT_dX8_timesFactorial_48 rfl
theorem zdT_dX8_isWholeTimes_0 : zdch cX8_isWholeTimes [(0, (.aload_n 0, 1)), (1, (.getfield 40, 3)), (4, (.getfield 266, 3)), (7, (.ifCond .le 22, 3)), (10, (.lload_n 1, 1)), (11, (.aload_n 0, 1)), (12, (.getfield 40, 3)), (15, (.getfield 266, 3)), (18, (.i2l, 1)), (19, (.lrem, 1)), (20, (.lconst 0, 1)), (21, (.lcmp, 1)), (22, (.ifCond .ne 7, 3)), (25, (.iconst 1, 1)), (26, (.goto 4, 3)), (29, (.iconst 0, 1)), (30, (.ireturn, 1))] = true := by decide +kernel
theorem dX8_isWholeTimes_0 : decode cX8_isWholeTimes 0 = .ok (.aload_n 0, 1) := zdcg 0 zdT_dX8_isWholeTimes_0 rfl
theorem dX8_isWholeTimes_1 : decode cX8_isWholeTimes 1 = .ok (.getfield 40, 3) := zdcg 1 zdT_dX8_isWholeTimes_0 rfl
theorem dX8_isWholeTimes_4 : decode cX8_isWholeTimes 4 = .ok (.getfield 266, 3) := zdcg 2 zdT_dX8_isWholeTimes_0 rfl
theorem dX8_isWholeTimes_7 : decode cX8_isWholeTimes 7 = .ok (.ifCond .le 22, 3) := zdcg 3 zdT_dX8_isWholeTimes_0 rfl
theorem dX8_isWholeTimes_10 : decode cX8_isWholeTimes 10 = .ok (.lload_n 1, 1) := zdcg 4 zdT_dX8_isWholeTimes_0 rfl
theorem dX8_isWholeTimes_11 : decode cX8_isWholeTimes 11 = .ok (.aload_n 0, 1) := zdcg 5 zdT_dX8_isWholeTimes_0 rfl
theorem dX8_isWholeTimes_12 : decode cX8_isWholeTimes 12 = .ok (.getfield 40, 3) := zdcg 6 zdT_dX8_isWholeTimes_0 rfl
theorem dX8_isWholeTimes_15 : decode cX8_isWholeTimes 15 = .ok (.getfield 266, 3) := zdcg 7 zdT_dX8_isWholeTimes_0 rfl
theorem dX8_isWholeTimes_18 : decode cX8_isWholeTimes 18 = .ok (.i2l, 1) := zdcg 8 zdT_dX8_isWholeTimes_0 rfl
theorem dX8_isWholeTimes_19 : decode cX8_isWholeTimes 19 = .ok (.lrem, 1) := zdcg 9 zdT_dX8_isWholeTimes_0 rfl
theorem dX8_isWholeTimes_20 : decode cX8_isWholeTimes 20 = .ok (.lconst 0, 1) := zdcg 10 zdT_dX8_isWholeTimes_0 rfl
theorem dX8_isWholeTimes_21 : decode cX8_isWholeTimes 21 = .ok (.lcmp, 1) := zdcg 11 zdT_dX8_isWholeTimes_0 rfl
theorem dX8_isWholeTimes_22 : decode cX8_isWholeTimes 22 = .ok (.ifCond .ne 7, 3) := zdcg 12 zdT_dX8_isWholeTimes_0 rfl
theorem dX8_isWholeTimes_25 : decode cX8_isWholeTimes 25 = .ok (.iconst 1, 1) := zdcg 13 zdT_dX8_isWholeTimes_0 rfl
theorem dX8_isWholeTimes_26 : decode cX8_isWholeTimes 26 = .ok (.goto 4, 3) := zdcg 14 zdT_dX8_isWholeTimes_0 rfl
theorem dX8_isWholeTimes_29 : decode cX8_isWholeTimes 29 = .ok (.iconst 0, 1) := zdcg 15 zdT_dX8_isWholeTimes_0 rfl
theorem dX8_isWholeTimes_30 : decode cX8_isWholeTimes 30 = .ok (.ireturn, 1) := zdcg 16 zdT_dX8_isWholeTimes_0 rfl
theorem zdT_dX8_addTimes_0 : zdch cX8_addTimes [(0, (.iconst 0, 1)), (1, (.istore 4, 2)), (3, (.iload 4, 2)), (5, (.aload_n 0, 1)), (6, (.getfield 40, 3)), (9, (.getfield 74, 3)), (12, (.if_icmp .ge 26, 3)), (15, (.aload_n 0, 1)), (16, (.getfield 26, 3)), (19, (.iload 4, 2)), (21, (.dup2, 1)), (22, (.laload, 1)), (23, (.lload_n 1, 1)), (24, (.aload_n 3, 1)), (25, (.iload 4, 2)), (27, (.iaload, 1)), (28, (.i2l, 1)), (29, (.lmul, 1)), (30, (.ladd, 1)), (31, (.lastore, 1)), (32, (.iinc 4 1, 3)), (35, (.goto (-32), 3)), (38, (.return_, 1))] = true := by decide +kernel
theorem dX8_addTimes_0 : decode cX8_addTimes 0 = .ok (.iconst 0, 1) := zdcg 0 zdT_dX8_addTimes_0 rfl
theorem dX8_addTimes_1 : decode cX8_addTimes 1 = .ok (.istore 4, 2) := zdcg 1 zdT_dX8_addTimes_0 rfl
theorem dX8_addTimes_3 : decode cX8_addTimes 3 = .ok (.iload 4, 2) := zdcg 2 zdT_dX8_addTimes_0 rfl
theorem dX8_addTimes_5 : decode cX8_addTimes 5 = .ok (.aload_n 0, 1) := zdcg 3 zdT_dX8_addTimes_0 rfl
theorem dX8_addTimes_6 : decode cX8_addTimes 6 = .ok (.getfield 40, 3) := zdcg 4 zdT_dX8_addTimes_0 rfl
theorem dX8_addTimes_9 : decode cX8_addTimes 9 = .ok (.getfield 74, 3) := zdcg 5 zdT_dX8_addTimes_0 rfl
theorem dX8_addTimes_12 : decode cX8_addTimes 12 = .ok (.if_icmp .ge 26, 3) := zdcg 6 zdT_dX8_addTimes_0 rfl
theorem dX8_addTimes_15 : decode cX8_addTimes 15 = .ok (.aload_n 0, 1) := zdcg 7 zdT_dX8_addTimes_0 rfl
theorem dX8_addTimes_16 : decode cX8_addTimes 16 = .ok (.getfield 26, 3) := zdcg 8 zdT_dX8_addTimes_0 rfl
theorem dX8_addTimes_19 : decode cX8_addTimes 19 = .ok (.iload 4, 2) := zdcg 9 zdT_dX8_addTimes_0 rfl
theorem dX8_addTimes_21 : decode cX8_addTimes 21 = .ok (.dup2, 1) := zdcg 10 zdT_dX8_addTimes_0 rfl
theorem dX8_addTimes_22 : decode cX8_addTimes 22 = .ok (.laload, 1) := zdcg 11 zdT_dX8_addTimes_0 rfl
theorem dX8_addTimes_23 : decode cX8_addTimes 23 = .ok (.lload_n 1, 1) := zdcg 12 zdT_dX8_addTimes_0 rfl
theorem dX8_addTimes_24 : decode cX8_addTimes 24 = .ok (.aload_n 3, 1) := zdcg 13 zdT_dX8_addTimes_0 rfl
theorem dX8_addTimes_25 : decode cX8_addTimes 25 = .ok (.iload 4, 2) := zdcg 14 zdT_dX8_addTimes_0 rfl
theorem dX8_addTimes_27 : decode cX8_addTimes 27 = .ok (.iaload, 1) := zdcg 15 zdT_dX8_addTimes_0 rfl
theorem dX8_addTimes_28 : decode cX8_addTimes 28 = .ok (.i2l, 1) := zdcg 16 zdT_dX8_addTimes_0 rfl
theorem dX8_addTimes_29 : decode cX8_addTimes 29 = .ok (.lmul, 1) := zdcg 17 zdT_dX8_addTimes_0 rfl
theorem dX8_addTimes_30 : decode cX8_addTimes 30 = .ok (.ladd, 1) := zdcg 18 zdT_dX8_addTimes_0 rfl
theorem dX8_addTimes_31 : decode cX8_addTimes 31 = .ok (.lastore, 1) := zdcg 19 zdT_dX8_addTimes_0 rfl
theorem dX8_addTimes_32 : decode cX8_addTimes 32 = .ok (.iinc 4 1, 3) := zdcg 20 zdT_dX8_addTimes_0 rfl
theorem dX8_addTimes_35 : decode cX8_addTimes 35 = .ok (.goto (-32), 3) := zdcg 21 zdT_dX8_addTimes_0 rfl
theorem dX8_addTimes_38 : decode cX8_addTimes 38 = .ok (.return_, 1) := zdcg 22 zdT_dX8_addTimes_0 rfl
theorem zdT_dX8_isSlot_0 : zdch cX8_isSlot [(0, (.iload_n 0, 1)), (1, (.ifCond .lt 13, 3)), (4, (.iload_n 0, 1)), (5, (.bipush 6, 2)), (7, (.if_icmp .ge 7, 3)), (10, (.iconst 1, 1)), (11, (.goto 4, 3)), (14, (.iconst 0, 1)), (15, (.ireturn, 1))] = true := by decide +kernel
theorem dX8_isSlot_0 : decode cX8_isSlot 0 = .ok (.iload_n 0, 1) := zdcg 0 zdT_dX8_isSlot_0 rfl
theorem dX8_isSlot_1 : decode cX8_isSlot 1 = .ok (.ifCond .lt 13, 3) := zdcg 1 zdT_dX8_isSlot_0 rfl
theorem dX8_isSlot_4 : decode cX8_isSlot 4 = .ok (.iload_n 0, 1) := zdcg 2 zdT_dX8_isSlot_0 rfl
theorem dX8_isSlot_5 : decode cX8_isSlot 5 = .ok (.bipush 6, 2) := zdcg 3 zdT_dX8_isSlot_0 rfl
theorem dX8_isSlot_7 : decode cX8_isSlot 7 = .ok (.if_icmp .ge 7, 3) := zdcg 4 zdT_dX8_isSlot_0 rfl
theorem dX8_isSlot_10 : decode cX8_isSlot 10 = .ok (.iconst 1, 1) := zdcg 5 zdT_dX8_isSlot_0 rfl
theorem dX8_isSlot_11 : decode cX8_isSlot 11 = .ok (.goto 4, 3) := zdcg 6 zdT_dX8_isSlot_0 rfl
theorem dX8_isSlot_14 : decode cX8_isSlot 14 = .ok (.iconst 0, 1) := zdcg 7 zdT_dX8_isSlot_0 rfl
theorem dX8_isSlot_15 : decode cX8_isSlot 15 = .ok (.ireturn, 1) := zdcg 8 zdT_dX8_isSlot_0 rfl
theorem zdT_dX8_groupIndex_0 : zdch cX8_groupIndex [(0, (.iload_n 0, 1)), (1, (.bipush 8, 2)), (3, (.imul, 1)), (4, (.iload_n 1, 1)), (5, (.iadd, 1)), (6, (.ireturn, 1))] = true := by decide +kernel
theorem dX8_groupIndex_0 : decode cX8_groupIndex 0 = .ok (.iload_n 0, 1) := zdcg 0 zdT_dX8_groupIndex_0 rfl
theorem dX8_groupIndex_1 : decode cX8_groupIndex 1 = .ok (.bipush 8, 2) := zdcg 1 zdT_dX8_groupIndex_0 rfl
theorem dX8_groupIndex_3 : decode cX8_groupIndex 3 = .ok (.imul, 1) := zdcg 2 zdT_dX8_groupIndex_0 rfl
theorem dX8_groupIndex_4 : decode cX8_groupIndex 4 = .ok (.iload_n 1, 1) := zdcg 3 zdT_dX8_groupIndex_0 rfl
theorem dX8_groupIndex_5 : decode cX8_groupIndex 5 = .ok (.iadd, 1) := zdcg 4 zdT_dX8_groupIndex_0 rfl
theorem dX8_groupIndex_6 : decode cX8_groupIndex 6 = .ok (.ireturn, 1) := zdcg 5 zdT_dX8_groupIndex_0 rfl
theorem zdT_dX8_bit_0 : zdch cX8_bit [(0, (.iload_n 0, 1)), (1, (.ifCond .eq 7, 3)), (4, (.iconst 1, 1)), (5, (.goto 4, 3)), (8, (.iconst 0, 1)), (9, (.ireturn, 1))] = true := by decide +kernel
theorem dX8_bit_0 : decode cX8_bit 0 = .ok (.iload_n 0, 1) := zdcg 0 zdT_dX8_bit_0 rfl
theorem dX8_bit_1 : decode cX8_bit 1 = .ok (.ifCond .eq 7, 3) := zdcg 1 zdT_dX8_bit_0 rfl
theorem dX8_bit_4 : decode cX8_bit 4 = .ok (.iconst 1, 1) := zdcg 2 zdT_dX8_bit_0 rfl
theorem dX8_bit_5 : decode cX8_bit 5 = .ok (.goto 4, 3) := zdcg 3 zdT_dX8_bit_0 rfl
theorem dX8_bit_8 : decode cX8_bit 8 = .ok (.iconst 0, 1) := zdcg 4 zdT_dX8_bit_0 rfl
theorem dX8_bit_9 : decode cX8_bit 9 = .ok (.ireturn, 1) := zdcg 5 zdT_dX8_bit_0 rfl
theorem zdT_dX8_partAt_0 : zdch cX8_partAt [(0, (.iload_n 1, 1)), (1, (.aload_n 0, 1)), (2, (.arraylength, 1)), (3, (.if_icmp .ge 9, 3)), (6, (.aload_n 0, 1)), (7, (.iload_n 1, 1)), (8, (.iaload, 1)), (9, (.goto 4, 3)), (12, (.iconst 0, 1)), (13, (.ireturn, 1))] = true := by decide +kernel
theorem dX8_partAt_0 : decode cX8_partAt 0 = .ok (.iload_n 1, 1) := zdcg 0 zdT_dX8_partAt_0 rfl
theorem dX8_partAt_1 : decode cX8_partAt 1 = .ok (.aload_n 0, 1) := zdcg 1 zdT_dX8_partAt_0 rfl
theorem dX8_partAt_2 : decode cX8_partAt 2 = .ok (.arraylength, 1) := zdcg 2 zdT_dX8_partAt_0 rfl
theorem dX8_partAt_3 : decode cX8_partAt 3 = .ok (.if_icmp .ge 9, 3) := zdcg 3 zdT_dX8_partAt_0 rfl
theorem dX8_partAt_6 : decode cX8_partAt 6 = .ok (.aload_n 0, 1) := zdcg 4 zdT_dX8_partAt_0 rfl
theorem dX8_partAt_7 : decode cX8_partAt 7 = .ok (.iload_n 1, 1) := zdcg 5 zdT_dX8_partAt_0 rfl
theorem dX8_partAt_8 : decode cX8_partAt 8 = .ok (.iaload, 1) := zdcg 6 zdT_dX8_partAt_0 rfl
theorem dX8_partAt_9 : decode cX8_partAt 9 = .ok (.goto 4, 3) := zdcg 7 zdT_dX8_partAt_0 rfl
theorem dX8_partAt_12 : decode cX8_partAt 12 = .ok (.iconst 0, 1) := zdcg 8 zdT_dX8_partAt_0 rfl
theorem dX8_partAt_13 : decode cX8_partAt 13 = .ok (.ireturn, 1) := zdcg 9 zdT_dX8_partAt_0 rfl
theorem zdT_dX8_factorialOf_0 : zdch cX8_factorialOf [(0, (.iconst 1, 1)), (1, (.istore_n 1, 1)), (2, (.iconst 2, 1)), (3, (.istore_n 2, 1)), (4, (.iload_n 2, 1)), (5, (.iload_n 0, 1)), (6, (.if_icmp .gt 13, 3)), (9, (.iload_n 1, 1)), (10, (.iload_n 2, 1)), (11, (.imul, 1)), (12, (.istore_n 1, 1)), (13, (.iinc 2 1, 3)), (16, (.goto (-12), 3)), (19, (.iload_n 1, 1)), (20, (.ireturn, 1))] = true := by decide +kernel
theorem dX8_factorialOf_0 : decode cX8_factorialOf 0 = .ok (.iconst 1, 1) := zdcg 0 zdT_dX8_factorialOf_0 rfl
theorem dX8_factorialOf_1 : decode cX8_factorialOf 1 = .ok (.istore_n 1, 1) := zdcg 1 zdT_dX8_factorialOf_0 rfl
theorem dX8_factorialOf_2 : decode cX8_factorialOf 2 = .ok (.iconst 2, 1) := zdcg 2 zdT_dX8_factorialOf_0 rfl
theorem dX8_factorialOf_3 : decode cX8_factorialOf 3 = .ok (.istore_n 2, 1) := zdcg 3 zdT_dX8_factorialOf_0 rfl
theorem dX8_factorialOf_4 : decode cX8_factorialOf 4 = .ok (.iload_n 2, 1) := zdcg 4 zdT_dX8_factorialOf_0 rfl
theorem dX8_factorialOf_5 : decode cX8_factorialOf 5 = .ok (.iload_n 0, 1) := zdcg 5 zdT_dX8_factorialOf_0 rfl
theorem dX8_factorialOf_6 : decode cX8_factorialOf 6 = .ok (.if_icmp .gt 13, 3) := zdcg 6 zdT_dX8_factorialOf_0 rfl
theorem dX8_factorialOf_9 : decode cX8_factorialOf 9 = .ok (.iload_n 1, 1) := zdcg 7 zdT_dX8_factorialOf_0 rfl
theorem dX8_factorialOf_10 : decode cX8_factorialOf 10 = .ok (.iload_n 2, 1) := zdcg 8 zdT_dX8_factorialOf_0 rfl
theorem dX8_factorialOf_11 : decode cX8_factorialOf 11 = .ok (.imul, 1) := zdcg 9 zdT_dX8_factorialOf_0 rfl
theorem dX8_factorialOf_12 : decode cX8_factorialOf 12 = .ok (.istore_n 1, 1) := zdcg 10 zdT_dX8_factorialOf_0 rfl
theorem dX8_factorialOf_13 : decode cX8_factorialOf 13 = .ok (.iinc 2 1, 3) := zdcg 11 zdT_dX8_factorialOf_0 rfl
theorem dX8_factorialOf_16 : decode cX8_factorialOf 16 = .ok (.goto (-12), 3) := zdcg 12 zdT_dX8_factorialOf_0 rfl
theorem dX8_factorialOf_19 : decode cX8_factorialOf 19 = .ok (.iload_n 1, 1) := zdcg 13 zdT_dX8_factorialOf_0 rfl
theorem dX8_factorialOf_20 : decode cX8_factorialOf 20 = .ok (.ireturn, 1) := zdcg 14 zdT_dX8_factorialOf_0 rfl
theorem zdT_dX8_greatestDivisor_0 : zdch cX8_greatestDivisor [(0, (.lload_n 0, 1)), (1, (.lstore 4, 2)), (3, (.lload_n 2, 1)), (4, (.lstore 6, 2)), (6, (.iconst 0, 1)), (7, (.istore 8, 2)), (9, (.iload 8, 2)), (11, (.sipush 200, 3)), (14, (.if_icmp .ge 31, 3)), (17, (.lload 6, 2)), (19, (.lconst 0, 1)), (20, (.lcmp, 1)), (21, (.ifCond .eq 24, 3)), (24, (.lload 4, 2)), (26, (.lload 6, 2)), (28, (.lrem, 1)), (29, (.lstore 9, 2)), (31, (.lload 6, 2)), (33, (.lstore 4, 2)), (35, (.lload 9, 2)), (37, (.lstore 6, 2)), (39, (.iinc 8 1, 3)), (42, (.goto (-33), 3)), (45, (.lload 4, 2)), (47, (.lreturn, 1))] = true := by decide +kernel
theorem dX8_greatestDivisor_0 : decode cX8_greatestDivisor 0 = .ok (.lload_n 0, 1) := zdcg 0 zdT_dX8_greatestDivisor_0 rfl
theorem dX8_greatestDivisor_1 : decode cX8_greatestDivisor 1 = .ok (.lstore 4, 2) := zdcg 1 zdT_dX8_greatestDivisor_0 rfl
theorem dX8_greatestDivisor_3 : decode cX8_greatestDivisor 3 = .ok (.lload_n 2, 1) := zdcg 2 zdT_dX8_greatestDivisor_0 rfl
theorem dX8_greatestDivisor_4 : decode cX8_greatestDivisor 4 = .ok (.lstore 6, 2) := zdcg 3 zdT_dX8_greatestDivisor_0 rfl
theorem dX8_greatestDivisor_6 : decode cX8_greatestDivisor 6 = .ok (.iconst 0, 1) := zdcg 4 zdT_dX8_greatestDivisor_0 rfl
theorem dX8_greatestDivisor_7 : decode cX8_greatestDivisor 7 = .ok (.istore 8, 2) := zdcg 5 zdT_dX8_greatestDivisor_0 rfl
theorem dX8_greatestDivisor_9 : decode cX8_greatestDivisor 9 = .ok (.iload 8, 2) := zdcg 6 zdT_dX8_greatestDivisor_0 rfl
theorem dX8_greatestDivisor_11 : decode cX8_greatestDivisor 11 = .ok (.sipush 200, 3) := zdcg 7 zdT_dX8_greatestDivisor_0 rfl
theorem dX8_greatestDivisor_14 : decode cX8_greatestDivisor 14 = .ok (.if_icmp .ge 31, 3) := zdcg 8 zdT_dX8_greatestDivisor_0 rfl
theorem dX8_greatestDivisor_17 : decode cX8_greatestDivisor 17 = .ok (.lload 6, 2) := zdcg 9 zdT_dX8_greatestDivisor_0 rfl
theorem dX8_greatestDivisor_19 : decode cX8_greatestDivisor 19 = .ok (.lconst 0, 1) := zdcg 10 zdT_dX8_greatestDivisor_0 rfl
theorem dX8_greatestDivisor_20 : decode cX8_greatestDivisor 20 = .ok (.lcmp, 1) := zdcg 11 zdT_dX8_greatestDivisor_0 rfl
theorem dX8_greatestDivisor_21 : decode cX8_greatestDivisor 21 = .ok (.ifCond .eq 24, 3) := zdcg 12 zdT_dX8_greatestDivisor_0 rfl
theorem dX8_greatestDivisor_24 : decode cX8_greatestDivisor 24 = .ok (.lload 4, 2) := zdcg 13 zdT_dX8_greatestDivisor_0 rfl
theorem dX8_greatestDivisor_26 : decode cX8_greatestDivisor 26 = .ok (.lload 6, 2) := zdcg 14 zdT_dX8_greatestDivisor_0 rfl
theorem dX8_greatestDivisor_28 : decode cX8_greatestDivisor 28 = .ok (.lrem, 1) := zdcg 15 zdT_dX8_greatestDivisor_0 rfl
theorem dX8_greatestDivisor_29 : decode cX8_greatestDivisor 29 = .ok (.lstore 9, 2) := zdcg 16 zdT_dX8_greatestDivisor_0 rfl
theorem dX8_greatestDivisor_31 : decode cX8_greatestDivisor 31 = .ok (.lload 6, 2) := zdcg 17 zdT_dX8_greatestDivisor_0 rfl
theorem dX8_greatestDivisor_33 : decode cX8_greatestDivisor 33 = .ok (.lstore 4, 2) := zdcg 18 zdT_dX8_greatestDivisor_0 rfl
theorem dX8_greatestDivisor_35 : decode cX8_greatestDivisor 35 = .ok (.lload 9, 2) := zdcg 19 zdT_dX8_greatestDivisor_0 rfl
theorem dX8_greatestDivisor_37 : decode cX8_greatestDivisor 37 = .ok (.lstore 6, 2) := zdcg 20 zdT_dX8_greatestDivisor_0 rfl
theorem dX8_greatestDivisor_39 : decode cX8_greatestDivisor 39 = .ok (.iinc 8 1, 3) := zdcg 21 zdT_dX8_greatestDivisor_0 rfl
theorem dX8_greatestDivisor_42 : decode cX8_greatestDivisor 42 = .ok (.goto (-33), 3) := zdcg 22 zdT_dX8_greatestDivisor_0 rfl
theorem dX8_greatestDivisor_45 : decode cX8_greatestDivisor 45 = .ok (.lload 4, 2) := zdcg 23 zdT_dX8_greatestDivisor_0 rfl
theorem dX8_greatestDivisor_47 : decode cX8_greatestDivisor 47 = .ok (.lreturn, 1) := zdcg 24 zdT_dX8_greatestDivisor_0 rfl
theorem zdT_dJ6_bitCount_0f7a4_0 : zdch cJ6_bitCount_0f7a4 [(0, (.iload_n 0, 1)), (1, (.iload_n 0, 1)), (2, (.iconst 1, 1)), (3, (.iushr, 1)), (4, (.ldc_w 265, 3)), (7, (.iand, 1)), (8, (.isub, 1)), (9, (.istore_n 0, 1)), (10, (.iload_n 0, 1)), (11, (.ldc_w 266, 3)), (14, (.iand, 1)), (15, (.iload_n 0, 1)), (16, (.iconst 2, 1)), (17, (.iushr, 1)), (18, (.ldc_w 266, 3)), (21, (.iand, 1)), (22, (.iadd, 1)), (23, (.istore_n 0, 1)), (24, (.iload_n 0, 1)), (25, (.iload_n 0, 1)), (26, (.iconst 4, 1)), (27, (.iushr, 1)), (28, (.iadd, 1)), (29, (.ldc_w 267, 3)), (32, (.iand, 1))] = true := by decide +kernel
theorem dJ6_bitCount_0f7a4_0 : decode cJ6_bitCount_0f7a4 0 = .ok (.iload_n 0, 1) := zdcg 0 zdT_dJ6_bitCount_0f7a4_0 rfl
theorem dJ6_bitCount_0f7a4_1 : decode cJ6_bitCount_0f7a4 1 = .ok (.iload_n 0, 1) := zdcg 1 zdT_dJ6_bitCount_0f7a4_0 rfl
theorem dJ6_bitCount_0f7a4_2 : decode cJ6_bitCount_0f7a4 2 = .ok (.iconst 1, 1) := zdcg 2 zdT_dJ6_bitCount_0f7a4_0 rfl
theorem dJ6_bitCount_0f7a4_3 : decode cJ6_bitCount_0f7a4 3 = .ok (.iushr, 1) := zdcg 3 zdT_dJ6_bitCount_0f7a4_0 rfl
theorem dJ6_bitCount_0f7a4_4 : decode cJ6_bitCount_0f7a4 4 = .ok (.ldc_w 265, 3) := zdcg 4 zdT_dJ6_bitCount_0f7a4_0 rfl
theorem dJ6_bitCount_0f7a4_7 : decode cJ6_bitCount_0f7a4 7 = .ok (.iand, 1) := zdcg 5 zdT_dJ6_bitCount_0f7a4_0 rfl
theorem dJ6_bitCount_0f7a4_8 : decode cJ6_bitCount_0f7a4 8 = .ok (.isub, 1) := zdcg 6 zdT_dJ6_bitCount_0f7a4_0 rfl
theorem dJ6_bitCount_0f7a4_9 : decode cJ6_bitCount_0f7a4 9 = .ok (.istore_n 0, 1) := zdcg 7 zdT_dJ6_bitCount_0f7a4_0 rfl
theorem dJ6_bitCount_0f7a4_10 : decode cJ6_bitCount_0f7a4 10 = .ok (.iload_n 0, 1) := zdcg 8 zdT_dJ6_bitCount_0f7a4_0 rfl
theorem dJ6_bitCount_0f7a4_11 : decode cJ6_bitCount_0f7a4 11 = .ok (.ldc_w 266, 3) := zdcg 9 zdT_dJ6_bitCount_0f7a4_0 rfl
theorem dJ6_bitCount_0f7a4_14 : decode cJ6_bitCount_0f7a4 14 = .ok (.iand, 1) := zdcg 10 zdT_dJ6_bitCount_0f7a4_0 rfl
theorem dJ6_bitCount_0f7a4_15 : decode cJ6_bitCount_0f7a4 15 = .ok (.iload_n 0, 1) := zdcg 11 zdT_dJ6_bitCount_0f7a4_0 rfl
theorem dJ6_bitCount_0f7a4_16 : decode cJ6_bitCount_0f7a4 16 = .ok (.iconst 2, 1) := zdcg 12 zdT_dJ6_bitCount_0f7a4_0 rfl
theorem dJ6_bitCount_0f7a4_17 : decode cJ6_bitCount_0f7a4 17 = .ok (.iushr, 1) := zdcg 13 zdT_dJ6_bitCount_0f7a4_0 rfl
theorem dJ6_bitCount_0f7a4_18 : decode cJ6_bitCount_0f7a4 18 = .ok (.ldc_w 266, 3) := zdcg 14 zdT_dJ6_bitCount_0f7a4_0 rfl
theorem dJ6_bitCount_0f7a4_21 : decode cJ6_bitCount_0f7a4 21 = .ok (.iand, 1) := zdcg 15 zdT_dJ6_bitCount_0f7a4_0 rfl
theorem dJ6_bitCount_0f7a4_22 : decode cJ6_bitCount_0f7a4 22 = .ok (.iadd, 1) := zdcg 16 zdT_dJ6_bitCount_0f7a4_0 rfl
theorem dJ6_bitCount_0f7a4_23 : decode cJ6_bitCount_0f7a4 23 = .ok (.istore_n 0, 1) := zdcg 17 zdT_dJ6_bitCount_0f7a4_0 rfl
theorem dJ6_bitCount_0f7a4_24 : decode cJ6_bitCount_0f7a4 24 = .ok (.iload_n 0, 1) := zdcg 18 zdT_dJ6_bitCount_0f7a4_0 rfl
theorem dJ6_bitCount_0f7a4_25 : decode cJ6_bitCount_0f7a4 25 = .ok (.iload_n 0, 1) := zdcg 19 zdT_dJ6_bitCount_0f7a4_0 rfl
theorem dJ6_bitCount_0f7a4_26 : decode cJ6_bitCount_0f7a4 26 = .ok (.iconst 4, 1) := zdcg 20 zdT_dJ6_bitCount_0f7a4_0 rfl
theorem dJ6_bitCount_0f7a4_27 : decode cJ6_bitCount_0f7a4 27 = .ok (.iushr, 1) := zdcg 21 zdT_dJ6_bitCount_0f7a4_0 rfl
theorem dJ6_bitCount_0f7a4_28 : decode cJ6_bitCount_0f7a4 28 = .ok (.iadd, 1) := zdcg 22 zdT_dJ6_bitCount_0f7a4_0 rfl
theorem dJ6_bitCount_0f7a4_29 : decode cJ6_bitCount_0f7a4 29 = .ok (.ldc_w 267, 3) := zdcg 23 zdT_dJ6_bitCount_0f7a4_0 rfl
theorem dJ6_bitCount_0f7a4_32 : decode cJ6_bitCount_0f7a4 32 = .ok (.iand, 1) := zdcg 24 zdT_dJ6_bitCount_0f7a4_0 rfl
theorem zdT_dJ6_bitCount_0f7a4_33 : zdch cJ6_bitCount_0f7a4 [(33, (.istore_n 0, 1)), (34, (.iload_n 0, 1)), (35, (.iload_n 0, 1)), (36, (.bipush 8, 2)), (38, (.iushr, 1)), (39, (.iadd, 1)), (40, (.istore_n 0, 1)), (41, (.iload_n 0, 1)), (42, (.iload_n 0, 1)), (43, (.bipush 16, 2)), (45, (.iushr, 1)), (46, (.iadd, 1)), (47, (.istore_n 0, 1)), (48, (.iload_n 0, 1)), (49, (.bipush 63, 2)), (51, (.iand, 1)), (52, (.ireturn, 1))] = true := by decide +kernel
theorem dJ6_bitCount_0f7a4_33 : decode cJ6_bitCount_0f7a4 33 = .ok (.istore_n 0, 1) := zdcg 0 zdT_dJ6_bitCount_0f7a4_33 rfl
theorem dJ6_bitCount_0f7a4_34 : decode cJ6_bitCount_0f7a4 34 = .ok (.iload_n 0, 1) := zdcg 1 zdT_dJ6_bitCount_0f7a4_33 rfl
theorem dJ6_bitCount_0f7a4_35 : decode cJ6_bitCount_0f7a4 35 = .ok (.iload_n 0, 1) := zdcg 2 zdT_dJ6_bitCount_0f7a4_33 rfl
theorem dJ6_bitCount_0f7a4_36 : decode cJ6_bitCount_0f7a4 36 = .ok (.bipush 8, 2) := zdcg 3 zdT_dJ6_bitCount_0f7a4_33 rfl
theorem dJ6_bitCount_0f7a4_38 : decode cJ6_bitCount_0f7a4 38 = .ok (.iushr, 1) := zdcg 4 zdT_dJ6_bitCount_0f7a4_33 rfl
theorem dJ6_bitCount_0f7a4_39 : decode cJ6_bitCount_0f7a4 39 = .ok (.iadd, 1) := zdcg 5 zdT_dJ6_bitCount_0f7a4_33 rfl
theorem dJ6_bitCount_0f7a4_40 : decode cJ6_bitCount_0f7a4 40 = .ok (.istore_n 0, 1) := zdcg 6 zdT_dJ6_bitCount_0f7a4_33 rfl
theorem dJ6_bitCount_0f7a4_41 : decode cJ6_bitCount_0f7a4 41 = .ok (.iload_n 0, 1) := zdcg 7 zdT_dJ6_bitCount_0f7a4_33 rfl
theorem dJ6_bitCount_0f7a4_42 : decode cJ6_bitCount_0f7a4 42 = .ok (.iload_n 0, 1) := zdcg 8 zdT_dJ6_bitCount_0f7a4_33 rfl
theorem dJ6_bitCount_0f7a4_43 : decode cJ6_bitCount_0f7a4 43 = .ok (.bipush 16, 2) := zdcg 9 zdT_dJ6_bitCount_0f7a4_33 rfl
theorem dJ6_bitCount_0f7a4_45 : decode cJ6_bitCount_0f7a4 45 = .ok (.iushr, 1) := zdcg 10 zdT_dJ6_bitCount_0f7a4_33 rfl
theorem dJ6_bitCount_0f7a4_46 : decode cJ6_bitCount_0f7a4 46 = .ok (.iadd, 1) := zdcg 11 zdT_dJ6_bitCount_0f7a4_33 rfl
theorem dJ6_bitCount_0f7a4_47 : decode cJ6_bitCount_0f7a4 47 = .ok (.istore_n 0, 1) := zdcg 12 zdT_dJ6_bitCount_0f7a4_33 rfl
theorem dJ6_bitCount_0f7a4_48 : decode cJ6_bitCount_0f7a4 48 = .ok (.iload_n 0, 1) := zdcg 13 zdT_dJ6_bitCount_0f7a4_33 rfl
theorem dJ6_bitCount_0f7a4_49 : decode cJ6_bitCount_0f7a4 49 = .ok (.bipush 63, 2) := zdcg 14 zdT_dJ6_bitCount_0f7a4_33 rfl
theorem dJ6_bitCount_0f7a4_51 : decode cJ6_bitCount_0f7a4 51 = .ok (.iand, 1) := zdcg 15 zdT_dJ6_bitCount_0f7a4_33 rfl
theorem dJ6_bitCount_0f7a4_52 : decode cJ6_bitCount_0f7a4 52 = .ok (.ireturn, 1) := zdcg 16 zdT_dJ6_bitCount_0f7a4_33 rfl
theorem zdT_dJ7_fill_d0a16_0 : zdch cJ7_fill_d0a16 [(0, (.iconst 0, 1)), (1, (.istore_n 3, 1)), (2, (.aload_n 0, 1)), (3, (.arraylength, 1)), (4, (.istore 4, 2)), (6, (.iload_n 3, 1)), (7, (.iload 4, 2)), (9, (.if_icmp .ge 13, 3)), (12, (.aload_n 0, 1)), (13, (.iload_n 3, 1)), (14, (.lload_n 1, 1)), (15, (.lastore, 1)), (16, (.iinc 3 1, 3)), (19, (.goto (-13), 3)), (22, (.return_, 1))] = true := by decide +kernel
theorem dJ7_fill_d0a16_0 : decode cJ7_fill_d0a16 0 = .ok (.iconst 0, 1) := zdcg 0 zdT_dJ7_fill_d0a16_0 rfl
theorem dJ7_fill_d0a16_1 : decode cJ7_fill_d0a16 1 = .ok (.istore_n 3, 1) := zdcg 1 zdT_dJ7_fill_d0a16_0 rfl
theorem dJ7_fill_d0a16_2 : decode cJ7_fill_d0a16 2 = .ok (.aload_n 0, 1) := zdcg 2 zdT_dJ7_fill_d0a16_0 rfl
theorem dJ7_fill_d0a16_3 : decode cJ7_fill_d0a16 3 = .ok (.arraylength, 1) := zdcg 3 zdT_dJ7_fill_d0a16_0 rfl
theorem dJ7_fill_d0a16_4 : decode cJ7_fill_d0a16 4 = .ok (.istore 4, 2) := zdcg 4 zdT_dJ7_fill_d0a16_0 rfl
theorem dJ7_fill_d0a16_6 : decode cJ7_fill_d0a16 6 = .ok (.iload_n 3, 1) := zdcg 5 zdT_dJ7_fill_d0a16_0 rfl
theorem dJ7_fill_d0a16_7 : decode cJ7_fill_d0a16 7 = .ok (.iload 4, 2) := zdcg 6 zdT_dJ7_fill_d0a16_0 rfl
theorem dJ7_fill_d0a16_9 : decode cJ7_fill_d0a16 9 = .ok (.if_icmp .ge 13, 3) := zdcg 7 zdT_dJ7_fill_d0a16_0 rfl
theorem dJ7_fill_d0a16_12 : decode cJ7_fill_d0a16 12 = .ok (.aload_n 0, 1) := zdcg 8 zdT_dJ7_fill_d0a16_0 rfl
theorem dJ7_fill_d0a16_13 : decode cJ7_fill_d0a16 13 = .ok (.iload_n 3, 1) := zdcg 9 zdT_dJ7_fill_d0a16_0 rfl
theorem dJ7_fill_d0a16_14 : decode cJ7_fill_d0a16 14 = .ok (.lload_n 1, 1) := zdcg 10 zdT_dJ7_fill_d0a16_0 rfl
theorem dJ7_fill_d0a16_15 : decode cJ7_fill_d0a16 15 = .ok (.lastore, 1) := zdcg 11 zdT_dJ7_fill_d0a16_0 rfl
theorem dJ7_fill_d0a16_16 : decode cJ7_fill_d0a16 16 = .ok (.iinc 3 1, 3) := zdcg 12 zdT_dJ7_fill_d0a16_0 rfl
theorem dJ7_fill_d0a16_19 : decode cJ7_fill_d0a16 19 = .ok (.goto (-13), 3) := zdcg 13 zdT_dJ7_fill_d0a16_0 rfl
theorem dJ7_fill_d0a16_22 : decode cJ7_fill_d0a16 22 = .ok (.return_, 1) := zdcg 14 zdT_dJ7_fill_d0a16_0 rfl
theorem zdT_dJ7_fill_53178_0 : zdch cJ7_fill_53178 [(0, (.iconst 0, 1)), (1, (.istore_n 2, 1)), (2, (.aload_n 0, 1)), (3, (.arraylength, 1)), (4, (.istore_n 3, 1)), (5, (.iload_n 2, 1)), (6, (.iload_n 3, 1)), (7, (.if_icmp .ge 13, 3)), (10, (.aload_n 0, 1)), (11, (.iload_n 2, 1)), (12, (.iload_n 1, 1)), (13, (.iastore, 1)), (14, (.iinc 2 1, 3)), (17, (.goto (-12), 3)), (20, (.return_, 1))] = true := by decide +kernel
theorem dJ7_fill_53178_0 : decode cJ7_fill_53178 0 = .ok (.iconst 0, 1) := zdcg 0 zdT_dJ7_fill_53178_0 rfl
theorem dJ7_fill_53178_1 : decode cJ7_fill_53178 1 = .ok (.istore_n 2, 1) := zdcg 1 zdT_dJ7_fill_53178_0 rfl
theorem dJ7_fill_53178_2 : decode cJ7_fill_53178 2 = .ok (.aload_n 0, 1) := zdcg 2 zdT_dJ7_fill_53178_0 rfl
theorem dJ7_fill_53178_3 : decode cJ7_fill_53178 3 = .ok (.arraylength, 1) := zdcg 3 zdT_dJ7_fill_53178_0 rfl
theorem dJ7_fill_53178_4 : decode cJ7_fill_53178 4 = .ok (.istore_n 3, 1) := zdcg 4 zdT_dJ7_fill_53178_0 rfl
theorem dJ7_fill_53178_5 : decode cJ7_fill_53178 5 = .ok (.iload_n 2, 1) := zdcg 5 zdT_dJ7_fill_53178_0 rfl
theorem dJ7_fill_53178_6 : decode cJ7_fill_53178 6 = .ok (.iload_n 3, 1) := zdcg 6 zdT_dJ7_fill_53178_0 rfl
theorem dJ7_fill_53178_7 : decode cJ7_fill_53178 7 = .ok (.if_icmp .ge 13, 3) := zdcg 7 zdT_dJ7_fill_53178_0 rfl
theorem dJ7_fill_53178_10 : decode cJ7_fill_53178 10 = .ok (.aload_n 0, 1) := zdcg 8 zdT_dJ7_fill_53178_0 rfl
theorem dJ7_fill_53178_11 : decode cJ7_fill_53178 11 = .ok (.iload_n 2, 1) := zdcg 9 zdT_dJ7_fill_53178_0 rfl
theorem dJ7_fill_53178_12 : decode cJ7_fill_53178 12 = .ok (.iload_n 1, 1) := zdcg 10 zdT_dJ7_fill_53178_0 rfl
theorem dJ7_fill_53178_13 : decode cJ7_fill_53178 13 = .ok (.iastore, 1) := zdcg 11 zdT_dJ7_fill_53178_0 rfl
theorem dJ7_fill_53178_14 : decode cJ7_fill_53178 14 = .ok (.iinc 2 1, 3) := zdcg 12 zdT_dJ7_fill_53178_0 rfl
theorem dJ7_fill_53178_17 : decode cJ7_fill_53178 17 = .ok (.goto (-12), 3) := zdcg 13 zdT_dJ7_fill_53178_0 rfl
theorem dJ7_fill_53178_20 : decode cJ7_fill_53178 20 = .ok (.return_, 1) := zdcg 14 zdT_dJ7_fill_53178_0 rfl
theorem zdT_dJ7_copyOf_59c91_0 : zdch cJ7_copyOf_59c91 [(0, (.iload_n 1, 1)), (1, (.aload_n 0, 1)), (2, (.arraylength, 1)), (3, (.if_icmp .ne 11, 3)), (6, (.aload_n 0, 1)), (7, (.invokevirtual 316, 3)), (10, (.checkcast 317, 3)), (13, (.areturn, 1)), (14, (.iload_n 1, 1)), (15, (.newarray .int, 2)), (17, (.astore_n 2, 1)), (18, (.aload_n 0, 1)), (19, (.iconst 0, 1)), (20, (.aload_n 2, 1)), (21, (.iconst 0, 1)), (22, (.aload_n 0, 1)), (23, (.arraylength, 1)), (24, (.iload_n 1, 1)), (25, (.invokestatic 304, 3)), (28, (.invokestatic 150, 3)), (31, (.aload_n 2, 1)), (32, (.areturn, 1))] = true := by decide +kernel
theorem dJ7_copyOf_59c91_0 : decode cJ7_copyOf_59c91 0 = .ok (.iload_n 1, 1) := zdcg 0 zdT_dJ7_copyOf_59c91_0 rfl
theorem dJ7_copyOf_59c91_1 : decode cJ7_copyOf_59c91 1 = .ok (.aload_n 0, 1) := zdcg 1 zdT_dJ7_copyOf_59c91_0 rfl
theorem dJ7_copyOf_59c91_2 : decode cJ7_copyOf_59c91 2 = .ok (.arraylength, 1) := zdcg 2 zdT_dJ7_copyOf_59c91_0 rfl
theorem dJ7_copyOf_59c91_3 : decode cJ7_copyOf_59c91 3 = .ok (.if_icmp .ne 11, 3) := zdcg 3 zdT_dJ7_copyOf_59c91_0 rfl
theorem dJ7_copyOf_59c91_6 : decode cJ7_copyOf_59c91 6 = .ok (.aload_n 0, 1) := zdcg 4 zdT_dJ7_copyOf_59c91_0 rfl
theorem dJ7_copyOf_59c91_7 : decode cJ7_copyOf_59c91 7 = .ok (.invokevirtual 316, 3) := zdcg 5 zdT_dJ7_copyOf_59c91_0 rfl
theorem dJ7_copyOf_59c91_10 : decode cJ7_copyOf_59c91 10 = .ok (.checkcast 317, 3) := zdcg 6 zdT_dJ7_copyOf_59c91_0 rfl
theorem dJ7_copyOf_59c91_13 : decode cJ7_copyOf_59c91 13 = .ok (.areturn, 1) := zdcg 7 zdT_dJ7_copyOf_59c91_0 rfl
theorem dJ7_copyOf_59c91_14 : decode cJ7_copyOf_59c91 14 = .ok (.iload_n 1, 1) := zdcg 8 zdT_dJ7_copyOf_59c91_0 rfl
theorem dJ7_copyOf_59c91_15 : decode cJ7_copyOf_59c91 15 = .ok (.newarray .int, 2) := zdcg 9 zdT_dJ7_copyOf_59c91_0 rfl
theorem dJ7_copyOf_59c91_17 : decode cJ7_copyOf_59c91 17 = .ok (.astore_n 2, 1) := zdcg 10 zdT_dJ7_copyOf_59c91_0 rfl
theorem dJ7_copyOf_59c91_18 : decode cJ7_copyOf_59c91 18 = .ok (.aload_n 0, 1) := zdcg 11 zdT_dJ7_copyOf_59c91_0 rfl
theorem dJ7_copyOf_59c91_19 : decode cJ7_copyOf_59c91 19 = .ok (.iconst 0, 1) := zdcg 12 zdT_dJ7_copyOf_59c91_0 rfl
theorem dJ7_copyOf_59c91_20 : decode cJ7_copyOf_59c91 20 = .ok (.aload_n 2, 1) := zdcg 13 zdT_dJ7_copyOf_59c91_0 rfl
theorem dJ7_copyOf_59c91_21 : decode cJ7_copyOf_59c91 21 = .ok (.iconst 0, 1) := zdcg 14 zdT_dJ7_copyOf_59c91_0 rfl
theorem dJ7_copyOf_59c91_22 : decode cJ7_copyOf_59c91 22 = .ok (.aload_n 0, 1) := zdcg 15 zdT_dJ7_copyOf_59c91_0 rfl
theorem dJ7_copyOf_59c91_23 : decode cJ7_copyOf_59c91 23 = .ok (.arraylength, 1) := zdcg 16 zdT_dJ7_copyOf_59c91_0 rfl
theorem dJ7_copyOf_59c91_24 : decode cJ7_copyOf_59c91 24 = .ok (.iload_n 1, 1) := zdcg 17 zdT_dJ7_copyOf_59c91_0 rfl
theorem dJ7_copyOf_59c91_25 : decode cJ7_copyOf_59c91 25 = .ok (.invokestatic 304, 3) := zdcg 18 zdT_dJ7_copyOf_59c91_0 rfl
theorem dJ7_copyOf_59c91_28 : decode cJ7_copyOf_59c91 28 = .ok (.invokestatic 150, 3) := zdcg 19 zdT_dJ7_copyOf_59c91_0 rfl
theorem dJ7_copyOf_59c91_31 : decode cJ7_copyOf_59c91 31 = .ok (.aload_n 2, 1) := zdcg 20 zdT_dJ7_copyOf_59c91_0 rfl
theorem dJ7_copyOf_59c91_32 : decode cJ7_copyOf_59c91 32 = .ok (.areturn, 1) := zdcg 21 zdT_dJ7_copyOf_59c91_0 rfl
end
section
/-! links of the class, by program -/
theorem pf_X6_9 [zGh] {d : Nat} {X : zM} {fr : Nat} {P : zP d} {pc : Nat} {k : zK d} (h1 : X.1 = RX6) (h2 : X.2.2.2.2 = "<init>") (dg : decode X.2.1 pc = .ok (.putfield 9, 3)) (hs : zSim X fr P (pc + 3) k) : zSim X fr P pc (xpfR 22 0 k) := sm_putR (ci := 6) (n := 0) (ty := tyX6 0) rfl (by decide) rfl rfl (zputF (C := RX6) (T := TX6) (N := 2) (ty0 := tyX6) (ty := tyX6 0) inz6 tyX6_ok nmX6 rfl (by decide) (by rw [h1]; exact wd_35) rfl rfl h2 (by rw [h1]; rfl) dg) hs
theorem gf_X6_13 [zGh] {d : Nat} {X : zM} {fr : Nat} {P : zP d} {pc : Nat} {k : zK d} (h1 : X.1 = RX6) (dg : decode X.2.1 pc = .ok (.getfield 13, 3)) (hs : zSim X fr P (pc + 3) k) : zSim X fr P pc (xgfI 22 1 k) := sm_getfieldI (ci := 6) (n := 1) (C := RX6) (T := TX6) (N := 2) rfl rfl inz6 rfl (by decide) rfl (by rw [h1]; exact wd_37) rfl dg hs
theorem gf_X6_9 [zGh] {d : Nat} {X : zM} {fr : Nat} {P : zP d} {pc : Nat} {k : zK d} (h1 : X.1 = RX6) (dg : decode X.2.1 pc = .ok (.getfield 9, 3)) (hs : zSim X fr P (pc + 3) k) : zSim X fr P pc (xgfR 22 0 k) := sm_getfieldR (ci := 6) (n := 0) (C := RX6) (T := TX6) (N := 2) rfl rfl inz6 rfl (by decide) rfl (by rw [h1]; exact wd_35) rfl dg hs
theorem pf_X6_13 [zGh] {d : Nat} {X : zM} {fr : Nat} {P : zP d} {pc : Nat} {k : zK d} (h1 : X.1 = RX6) (dg : decode X.2.1 pc = .ok (.putfield 13, 3)) (hs : zSim X fr P (pc + 3) k) : zSim X fr P pc (xpfI 22 1 k) := sm_putI (ci := 6) (n := 1) (ty := tyX6 1) rfl (by decide) rfl rfl (zput (C := RX6) (T := TX6) (N := 2) (ty0 := tyX6) (ty := tyX6 1) inz6 tyX6_ok nmX6 rfl (by decide) (by rw [h1]; exact wd_37) rfl rfl dg) hs
theorem pf_X1_9 [zGh] {d : Nat} {X : zM} {fr : Nat} {P : zP d} {pc : Nat} {k : zK d} (h1 : X.1 = RX1) (dg : decode X.2.1 pc = .ok (.putfield 9, 3)) (hs : zSim X fr P (pc + 3) k) : zSim X fr P pc (xpfI 17 1 k) := sm_putI (ci := 1) (n := 1) (ty := tyX1 1) rfl (by decide) rfl rfl (zput (C := RX1) (T := TX1) (N := 4) (ty0 := tyX1) (ty := tyX1 1) inz1 tyX1_ok nmX1 rfl (by decide) (by rw [h1]; exact wd_554) rfl rfl dg) hs
theorem pf_X1_17 [zGh] {d : Nat} {X : zM} {fr : Nat} {P : zP d} {pc : Nat} {k : zK d} (h1 : X.1 = RX1) (h2 : X.2.2.2.2 = "<init>") (dg : decode X.2.1 pc = .ok (.putfield 17, 3)) (hs : zSim X fr P (pc + 3) k) : zSim X fr P pc (xpfR 17 2 k) := sm_putR (ci := 1) (n := 2) (ty := tyX1 2) rfl (by decide) rfl rfl (zputF (C := RX1) (T := TX1) (N := 4) (ty0 := tyX1) (ty := tyX1 2) inz1 tyX1_ok nmX1 rfl (by decide) (by rw [h1]; exact wd_556) rfl rfl h2 (by rw [h1]; rfl) dg) hs
theorem pf_X1_21 [zGh] {d : Nat} {X : zM} {fr : Nat} {P : zP d} {pc : Nat} {k : zK d} (h1 : X.1 = RX1) (dg : decode X.2.1 pc = .ok (.putfield 21, 3)) (hs : zSim X fr P (pc + 3) k) : zSim X fr P pc (xpfI 17 0 k) := sm_putI (ci := 1) (n := 0) (ty := tyX1 0) rfl (by decide) rfl rfl (zput (C := RX1) (T := TX1) (N := 4) (ty0 := tyX1) (ty := tyX1 0) inz1 tyX1_ok nmX1 rfl (by decide) (by rw [h1]; exact wd_552) rfl rfl dg) hs
theorem pf_X1_24 [zGh] {d : Nat} {X : zM} {fr : Nat} {P : zP d} {pc : Nat} {k : zK d} (h1 : X.1 = RX1) (dg : decode X.2.1 pc = .ok (.putfield 24, 3)) (hs : zSim X fr P (pc + 3) k) : zSim X fr P pc (xpfI 17 3 k) := sm_putI (ci := 1) (n := 3) (ty := tyX1 3) rfl (by decide) rfl rfl (zput (C := RX1) (T := TX1) (N := 4) (ty0 := tyX1) (ty := tyX1 3) inz1 tyX1_ok nmX1 rfl (by decide) (by rw [h1]; exact wd_558) rfl rfl dg) hs
theorem gf_X1_24 [zGh] {d : Nat} {X : zM} {fr : Nat} {P : zP d} {pc : Nat} {k : zK d} (h1 : X.1 = RX1) (dg : decode X.2.1 pc = .ok (.getfield 24, 3)) (hs : zSim X fr P (pc + 3) k) : zSim X fr P pc (xgfI 17 3 k) := sm_getfieldI (ci := 1) (n := 3) (C := RX1) (T := TX1) (N := 4) rfl rfl inz1 rfl (by decide) rfl (by rw [h1]; exact wd_558) rfl dg hs
theorem gf_X1_17 [zGh] {d : Nat} {X : zM} {fr : Nat} {P : zP d} {pc : Nat} {k : zK d} (h1 : X.1 = RX1) (dg : decode X.2.1 pc = .ok (.getfield 17, 3)) (hs : zSim X fr P (pc + 3) k) : zSim X fr P pc (xgfR 17 2 k) := sm_getfieldR (ci := 1) (n := 2) (C := RX1) (T := TX1) (N := 4) rfl rfl inz1 rfl (by decide) rfl (by rw [h1]; exact wd_556) rfl dg hs
theorem pf_X3_7 [zGh] {d : Nat} {X : zM} {fr : Nat} {P : zP d} {pc : Nat} {k : zK d} (h1 : X.1 = RX3) (h2 : X.2.2.2.2 = "<init>") (dg : decode X.2.1 pc = .ok (.putfield 7, 3)) (hs : zSim X fr P (pc + 3) k) : zSim X fr P pc (xpfI 19 0 k) := sm_putI (ci := 3) (n := 0) (ty := tyX3 0) rfl (by decide) rfl rfl (zputF (C := RX3) (T := TX3) (N := 2) (ty0 := tyX3) (ty := tyX3 0) inz3 tyX3_ok nmX3 rfl (by decide) (by rw [h1]; exact wd_352) rfl rfl h2 (by rw [h1]; rfl) dg) hs
theorem pf_X3_15 [zGh] {d : Nat} {X : zM} {fr : Nat} {P : zP d} {pc : Nat} {k : zK d} (h1 : X.1 = RX3) (h2 : X.2.2.2.2 = "<init>") (dg : decode X.2.1 pc = .ok (.putfield 15, 3)) (hs : zSim X fr P (pc + 3) k) : zSim X fr P pc (xpfR 19 1 k) := sm_putR (ci := 3) (n := 1) (ty := tyX3 1) rfl (by decide) rfl rfl (zputF (C := RX3) (T := TX3) (N := 2) (ty0 := tyX3) (ty := tyX3 1) inz3 tyX3_ok nmX3 rfl (by decide) (by rw [h1]; exact wd_353) rfl rfl h2 (by rw [h1]; rfl) dg) hs
theorem gf_X3_15 [zGh] {d : Nat} {X : zM} {fr : Nat} {P : zP d} {pc : Nat} {k : zK d} (h1 : X.1 = RX3) (dg : decode X.2.1 pc = .ok (.getfield 15, 3)) (hs : zSim X fr P (pc + 3) k) : zSim X fr P pc (xgfR 19 1 k) := sm_getfieldR (ci := 3) (n := 1) (C := RX3) (T := TX3) (N := 2) rfl rfl inz3 rfl (by decide) rfl (by rw [h1]; exact wd_353) rfl dg hs
theorem gf_X3_7 [zGh] {d : Nat} {X : zM} {fr : Nat} {P : zP d} {pc : Nat} {k : zK d} (h1 : X.1 = RX3) (dg : decode X.2.1 pc = .ok (.getfield 7, 3)) (hs : zSim X fr P (pc + 3) k) : zSim X fr P pc (xgfI 19 0 k) := sm_getfieldI (ci := 3) (n := 0) (C := RX3) (T := TX3) (N := 2) rfl rfl inz3 rfl (by decide) rfl (by rw [h1]; exact wd_352) rfl dg hs
theorem cr_X3_24 {X : zM} {fr frc pc mc ms : Nat} (h1 : X.1 = RX3) (hfr : frc + 1 ≤ fr) (dg : decode X.2.1 pc = .ok (.invokevirtual 24, 3)) : zRun X (RX3, cX3_inverse, 5, (some .int), "inverse") yX3_inverse fr frc pc 2 mc ms (fun ws As => ∃ (b : Nat) (As' : List Value) (q0 : Nat) (fs : List Value), As = .ref b :: As' ∧ ws[q0]? = some (b, .inr (3, fs))) := zrunV (n := 1) (ci := 3) rfl rfl wd_378 wd_10 (by rw [h1]; exact wd_375) wd_377 ws_18 (by decide) hfr (by decide) dg
theorem cr_X3_28 {X : zM} {fr frc pc mc ms : Nat} (h1 : X.1 = RX3) (hfr : frc + 1 ≤ fr) (dg : decode X.2.1 pc = .ok (.invokevirtual 28, 3)) : zRun X (RX3, cX3_scale, 5, none, "scale") yX3_scale fr frc pc 4 mc ms (fun ws As => ∃ (b : Nat) (As' : List Value) (q0 : Nat) (fs : List Value), As = .ref b :: As' ∧ ws[q0]? = some (b, .inr (3, fs))) := zrunV (n := 3) (ci := 3) rfl rfl wd_382 wd_10 (by rw [h1]; exact wd_379) wd_381 ws_19 (by decide) hfr (by decide) dg
theorem cr_X3_32 {X : zM} {fr frc pc mc ms : Nat} (h1 : X.1 = RX3) (hfr : frc + 1 ≤ fr) (dg : decode X.2.1 pc = .ok (.invokevirtual 32, 3)) : zRun X (RX3, cX3_takeAway, 7, none, "takeAway") yX3_takeAway fr frc pc 5 mc ms (fun ws As => ∃ (b : Nat) (As' : List Value) (q0 : Nat) (fs : List Value), As = .ref b :: As' ∧ ws[q0]? = some (b, .inr (3, fs))) := zrunV (n := 4) (ci := 3) rfl rfl wd_386 wd_10 (by rw [h1]; exact wd_383) wd_385 ws_20 (by decide) hfr (by decide) dg
theorem gf_X4_13 [zGh] {d : Nat} {X : zM} {fr : Nat} {P : zP d} {pc : Nat} {k : zK d} (h1 : X.1 = RX4) (dg : decode X.2.1 pc = .ok (.getfield 13, 3)) (hs : zSim X fr P (pc + 3) k) : zSim X fr P pc (xgfI 20 1 k) := sm_getfieldI (ci := 4) (n := 1) (C := RX4) (T := TX4) (N := 16) rfl rfl inz4 rfl (by decide) rfl (by rw [h1]; exact wd_128) rfl dg hs
theorem gf_X4_29 [zGh] {d : Nat} {X : zM} {fr : Nat} {P : zP d} {pc : Nat} {k : zK d} (h1 : X.1 = RX4) (dg : decode X.2.1 pc = .ok (.getfield 29, 3)) (hs : zSim X fr P (pc + 3) k) : zSim X fr P pc (xgfR 20 4 k) := sm_getfieldR (ci := 4) (n := 4) (C := RX4) (T := TX4) (N := 16) rfl rfl inz4 rfl (by decide) rfl (by rw [h1]; exact wd_138) rfl dg hs
theorem gf_X4_22 [zGh] {d : Nat} {X : zM} {fr : Nat} {P : zP d} {pc : Nat} {k : zK d} (h1 : X.1 = RX4) (dg : decode X.2.1 pc = .ok (.getfield 22, 3)) (hs : zSim X fr P (pc + 3) k) : zSim X fr P pc (xgfR 20 2 k) := sm_getfieldR (ci := 4) (n := 2) (C := RX4) (T := TX4) (N := 16) rfl rfl inz4 rfl (by decide) rfl (by rw [h1]; exact wd_131) rfl dg hs
theorem gf_X4_26 [zGh] {d : Nat} {X : zM} {fr : Nat} {P : zP d} {pc : Nat} {k : zK d} (h1 : X.1 = RX4) (dg : decode X.2.1 pc = .ok (.getfield 26, 3)) (hs : zSim X fr P (pc + 3) k) : zSim X fr P pc (xgfR 20 3 k) := sm_getfieldR (ci := 4) (n := 3) (C := RX4) (T := TX4) (N := 16) rfl rfl inz4 rfl (by decide) rfl (by rw [h1]; exact wd_136) rfl dg hs
theorem gf_X4_7 [zGh] {d : Nat} {X : zM} {fr : Nat} {P : zP d} {pc : Nat} {k : zK d} (h1 : X.1 = RX4) (dg : decode X.2.1 pc = .ok (.getfield 7, 3)) (hs : zSim X fr P (pc + 3) k) : zSim X fr P pc (xgfI 20 0 k) := sm_getfieldI (ci := 4) (n := 0) (C := RX4) (T := TX4) (N := 16) rfl rfl inz4 rfl (by decide) rfl (by rw [h1]; exact wd_127) rfl dg hs
theorem cr_X4_96 {X : zM} {fr frc pc mc ms : Nat} (h1 : X.1 = RX4) (hfr : frc + 1 ≤ fr) (dg : decode X.2.1 pc = .ok (.invokestatic 96, 3)) : zRun X (RX8, cX8_factorialOf, 3, (some .int), "factorialOf") yX8_factorialOf fr frc pc 1 mc ms (fun _ _ => True) := zrunSN (n := 1) (host := "PrimeBlocks") wd_95 wd_1 (by rw [h1]; decide) wd_94 (by decide) hfr (by decide) dg
theorem cr_X4_92 {X : zM} {fr frc pc mc ms : Nat} (h1 : X.1 = RX4) (hfr : frc + 1 ≤ fr) (dg : decode X.2.1 pc = .ok (.invokevirtual 92, 3)) : zRun X (RX4, cX4_hookAt, 3, (some .int), "hookAt") yX4_hookAt fr frc pc 3 mc ms (fun ws As => ∃ (b : Nat) (As' : List Value) (q0 : Nat) (fs : List Value), As = .ref b :: As' ∧ ws[q0]? = some (b, .inr (4, fs))) := zrunV (n := 2) (ci := 4) rfl rfl wd_92 wd_4 (by rw [h1]; exact wd_89) wd_90 wd_91 (by decide) hfr (by decide) dg
theorem gf_X4_45 [zGh] {d : Nat} {X : zM} {fr : Nat} {P : zP d} {pc : Nat} {k : zK d} (h1 : X.1 = RX4) (dg : decode X.2.1 pc = .ok (.getfield 45, 3)) (hs : zSim X fr P (pc + 3) k) : zSim X fr P pc (xgfR 20 15 k) := sm_getfieldR (ci := 4) (n := 15) (C := RX4) (T := TX4) (N := 16) rfl rfl inz4 rfl (by decide) rfl (by rw [h1]; exact wd_155) rfl dg hs
theorem gf_X4_42 [zGh] {d : Nat} {X : zM} {fr : Nat} {P : zP d} {pc : Nat} {k : zK d} (h1 : X.1 = RX4) (dg : decode X.2.1 pc = .ok (.getfield 42, 3)) (hs : zSim X fr P (pc + 3) k) : zSim X fr P pc (xgfR 20 14 k) := sm_getfieldR (ci := 4) (n := 14) (C := RX4) (T := TX4) (N := 16) rfl rfl inz4 rfl (by decide) rfl (by rw [h1]; exact wd_154) rfl dg hs
theorem cr_X4_53 {X : zM} {fr frc pc mc ms : Nat} (h1 : X.1 = RX4) (hfr : frc + 1 ≤ fr) (dg : decode X.2.1 pc = .ok (.invokevirtual 53, 3)) : zRun X (RX4, cX4_fillTableaux, 7, none, "fillTableaux") yX4_fillTableaux fr frc pc 3 mc ms (fun ws As => ∃ (b : Nat) (As' : List Value) (q0 : Nat) (fs : List Value), As = .ref b :: As' ∧ ws[q0]? = some (b, .inr (4, fs))) := zrunV (n := 2) (ci := 4) rfl rfl wd_101 wd_4 (by rw [h1]; exact wd_98) wd_100 ws_3 (by decide) hfr (by decide) dg
theorem gf_X4_69 [zGh] {d : Nat} {X : zM} {fr : Nat} {P : zP d} {pc : Nat} {k : zK d} (h1 : X.1 = RX4) (dg : decode X.2.1 pc = .ok (.getfield 69, 3)) (hs : zSim X fr P (pc + 3) k) : zSim X fr P pc (xgfI 20 13 k) := sm_getfieldI (ci := 4) (n := 13) (C := RX4) (T := TX4) (N := 16) rfl rfl inz4 rfl (by decide) rfl (by rw [h1]; exact wd_153) rfl dg hs
theorem gf_X4_39 [zGh] {d : Nat} {X : zM} {fr : Nat} {P : zP d} {pc : Nat} {k : zK d} (h1 : X.1 = RX4) (dg : decode X.2.1 pc = .ok (.getfield 39, 3)) (hs : zSim X fr P (pc + 3) k) : zSim X fr P pc (xgfI 20 5 k) := sm_getfieldI (ci := 4) (n := 5) (C := RX4) (T := TX4) (N := 16) rfl rfl inz4 rfl (by decide) rfl (by rw [h1]; exact wd_140) rfl dg hs
theorem gf_X4_50 [zGh] {d : Nat} {X : zM} {fr : Nat} {P : zP d} {pc : Nat} {k : zK d} (h1 : X.1 = RX4) (dg : decode X.2.1 pc = .ok (.getfield 50, 3)) (hs : zSim X fr P (pc + 3) k) : zSim X fr P pc (xgfR 20 6 k) := sm_getfieldR (ci := 4) (n := 6) (C := RX4) (T := TX4) (N := 16) rfl rfl inz4 rfl (by decide) rfl (by rw [h1]; exact wd_143) rfl dg hs
theorem pf_X4_69 [zGh] {d : Nat} {X : zM} {fr : Nat} {P : zP d} {pc : Nat} {k : zK d} (h1 : X.1 = RX4) (dg : decode X.2.1 pc = .ok (.putfield 69, 3)) (hs : zSim X fr P (pc + 3) k) : zSim X fr P pc (xpfI 20 13 k) := sm_putI (ci := 4) (n := 13) (ty := tyX4 13) rfl (by decide) rfl rfl (zput (C := RX4) (T := TX4) (N := 16) (ty0 := tyX4) (ty := tyX4 13) inz4 tyX4_ok nmX4 rfl (by decide) (by rw [h1]; exact wd_153) rfl rfl dg) hs
theorem cr_X4_113 {X : zM} {fr frc pc mc ms : Nat} (h1 : X.1 = RX4) (hfr : frc + 1 ≤ fr) (dg : decode X.2.1 pc = .ok (.invokestatic 113, 3)) : zRun X (RJ6, cJ6_bitCount_0f7a4, 1, (some .int), "bitCount") yJ6_bitCount_0f7a4 fr frc pc 1 mc ms (fun _ _ => True) := zrunS (n := 1) wd_119 wd_8 (by rw [h1]; exact wd_117) wd_118 (by decide) hfr (by decide) dg
theorem cr_X4_76 {X : zM} {fr frc pc mc ms : Nat} (h1 : X.1 = RX4) (hfr : frc + 1 ≤ fr) (dg : decode X.2.1 pc = .ok (.invokevirtual 76, 3)) : zRun X (RX4, cX4_fillWays, 7, none, "fillWays") yX4_fillWays fr frc pc 4 mc ms (fun ws As => ∃ (b : Nat) (As' : List Value) (q0 : Nat) (fs : List Value), As = .ref b :: As' ∧ ws[q0]? = some (b, .inr (4, fs))) := zrunV (n := 3) (ci := 4) rfl rfl wd_116 wd_4 (by rw [h1]; exact wd_113) wd_115 ws_5 (by decide) hfr (by decide) dg
theorem gf_X4_60 [zGh] {d : Nat} {X : zM} {fr : Nat} {P : zP d} {pc : Nat} {k : zK d} (h1 : X.1 = RX4) (dg : decode X.2.1 pc = .ok (.getfield 60, 3)) (hs : zSim X fr P (pc + 3) k) : zSim X fr P pc (xgfI 20 8 k) := sm_getfieldI (ci := 4) (n := 8) (C := RX4) (T := TX4) (N := 16) rfl rfl inz4 rfl (by decide) rfl (by rw [h1]; exact wd_148) rfl dg hs
theorem gf_X4_63 [zGh] {d : Nat} {X : zM} {fr : Nat} {P : zP d} {pc : Nat} {k : zK d} (h1 : X.1 = RX4) (dg : decode X.2.1 pc = .ok (.getfield 63, 3)) (hs : zSim X fr P (pc + 3) k) : zSim X fr P pc (xgfR 20 9 k) := sm_getfieldR (ci := 4) (n := 9) (C := RX4) (T := TX4) (N := 16) rfl rfl inz4 rfl (by decide) rfl (by rw [h1]; exact wd_149) rfl dg hs
theorem gf_X4_66 [zGh] {d : Nat} {X : zM} {fr : Nat} {P : zP d} {pc : Nat} {k : zK d} (h1 : X.1 = RX4) (dg : decode X.2.1 pc = .ok (.getfield 66, 3)) (hs : zSim X fr P (pc + 3) k) : zSim X fr P pc (xgfR 20 10 k) := sm_getfieldR (ci := 4) (n := 10) (C := RX4) (T := TX4) (N := 16) rfl rfl inz4 rfl (by decide) rfl (by rw [h1]; exact wd_150) rfl dg hs
theorem gf_X4_80 [zGh] {d : Nat} {X : zM} {fr : Nat} {P : zP d} {pc : Nat} {k : zK d} (h1 : X.1 = RX4) (dg : decode X.2.1 pc = .ok (.getfield 80, 3)) (hs : zSim X fr P (pc + 3) k) : zSim X fr P pc (xgfR 20 12 k) := sm_getfieldR (ci := 4) (n := 12) (C := RX4) (T := TX4) (N := 16) rfl rfl inz4 rfl (by decide) rfl (by rw [h1]; exact wd_152) rfl dg hs
theorem cr_X4_118 {X : zM} {fr frc pc mc ms : Nat} (h1 : X.1 = RX4) (hfr : frc + 1 ≤ fr) (dg : decode X.2.1 pc = .ok (.invokevirtual 118, 3)) : zRun X (RX4, cX4_codeOf, 6, (some .int), "codeOf") yX4_codeOf fr frc pc 4 mc ms (fun ws As => ∃ (b : Nat) (As' : List Value) (q0 : Nat) (fs : List Value), As = .ref b :: As' ∧ ws[q0]? = some (b, .inr (4, fs))) := zrunV (n := 3) (ci := 4) rfl rfl wd_251 wd_4 (by rw [h1]; exact wd_248) wd_250 ws_14 (by decide) hfr (by decide) dg
theorem gf_X4_86 [zGh] {d : Nat} {X : zM} {fr : Nat} {P : zP d} {pc : Nat} {k : zK d} (h1 : X.1 = RX4) (dg : decode X.2.1 pc = .ok (.getfield 86, 3)) (hs : zSim X fr P (pc + 3) k) : zSim X fr P pc (xgfR 20 11 k) := sm_getfieldR (ci := 4) (n := 11) (C := RX4) (T := TX4) (N := 16) rfl rfl inz4 rfl (by decide) rfl (by rw [h1]; exact wd_151) rfl dg hs
theorem cr_X4_126 {X : zM} {fr frc pc mc ms : Nat} (h1 : X.1 = RX4) (hfr : frc + 1 ≤ fr) (dg : decode X.2.1 pc = .ok (.invokevirtual 126, 3)) : zRun X (RX4, cX4_formWith, 5, (some .int), "formWith") yX4_formWith fr frc pc 3 mc ms (fun ws As => ∃ (b : Nat) (As' : List Value) (q0 : Nat) (fs : List Value), As = .ref b :: As' ∧ ws[q0]? = some (b, .inr (4, fs))) := zrunV (n := 2) (ci := 4) rfl rfl wd_259 wd_4 (by rw [h1]; exact wd_256) wd_258 ws_15 (by decide) hfr (by decide) dg
theorem gf_X4_89 [zGh] {d : Nat} {X : zM} {fr : Nat} {P : zP d} {pc : Nat} {k : zK d} (h1 : X.1 = RX4) (dg : decode X.2.1 pc = .ok (.getfield 89, 3)) (hs : zSim X fr P (pc + 3) k) : zSim X fr P pc (xgfR 20 7 k) := sm_getfieldR (ci := 4) (n := 7) (C := RX4) (T := TX4) (N := 16) rfl rfl inz4 rfl (by decide) rfl (by rw [h1]; exact wd_145) rfl dg hs
theorem cr_X4_122 {X : zM} {fr frc pc mc ms : Nat} (h1 : X.1 = RX4) (hfr : frc + 1 ≤ fr) (dg : decode X.2.1 pc = .ok (.invokevirtual 122, 3)) : zRun X (RX4, cX4_makeMovedForms, 6, none, "makeMovedForms") yX4_makeMovedForms fr frc pc 4 mc ms (fun ws As => ∃ (b : Nat) (As' : List Value) (q0 : Nat) (fs : List Value), As = .ref b :: As' ∧ ws[q0]? = some (b, .inr (4, fs))) := zrunV (n := 3) (ci := 4) rfl rfl wd_255 wd_4 (by rw [h1]; exact wd_252) wd_253 wd_254 (by decide) hfr (by decide) dg
theorem pf_X4_7 [zGh] {d : Nat} {X : zM} {fr : Nat} {P : zP d} {pc : Nat} {k : zK d} (h1 : X.1 = RX4) (h2 : X.2.2.2.2 = "<init>") (dg : decode X.2.1 pc = .ok (.putfield 7, 3)) (hs : zSim X fr P (pc + 3) k) : zSim X fr P pc (xpfI 20 0 k) := sm_putI (ci := 4) (n := 0) (ty := tyX4 0) rfl (by decide) rfl rfl (zputF (C := RX4) (T := TX4) (N := 16) (ty0 := tyX4) (ty := tyX4 0) inz4 tyX4_ok nmX4 rfl (by decide) (by rw [h1]; exact wd_127) rfl rfl h2 (by rw [h1]; rfl) dg) hs
theorem pf_X4_13 [zGh] {d : Nat} {X : zM} {fr : Nat} {P : zP d} {pc : Nat} {k : zK d} (h1 : X.1 = RX4) (h2 : X.2.2.2.2 = "<init>") (dg : decode X.2.1 pc = .ok (.putfield 13, 3)) (hs : zSim X fr P (pc + 3) k) : zSim X fr P pc (xpfI 20 1 k) := sm_putI (ci := 4) (n := 1) (ty := tyX4 1) rfl (by decide) rfl rfl (zputF (C := RX4) (T := TX4) (N := 16) (ty0 := tyX4) (ty := tyX4 1) inz4 tyX4_ok nmX4 rfl (by decide) (by rw [h1]; exact wd_128) rfl rfl h2 (by rw [h1]; rfl) dg) hs
theorem cr_X4_16 {X : zM} {fr frc pc mc ms : Nat} (h1 : X.1 = RX4) (hfr : frc + 1 ≤ fr) (dg : decode X.2.1 pc = .ok (.invokestatic 16, 3)) : zRun X (RJ7, cJ7_copyOf_59c91, 3, (some (.array .int)), "copyOf") yJ7_copyOf_59c91 fr frc pc 2 mc ms (fun _ _ => True) := zrunS (n := 2) wd_67 wd_5 (by rw [h1]; exact wd_65) wd_66 (by decide) hfr (by decide) dg
theorem pf_X4_22 [zGh] {d : Nat} {X : zM} {fr : Nat} {P : zP d} {pc : Nat} {k : zK d} (h1 : X.1 = RX4) (h2 : X.2.2.2.2 = "<init>") (dg : decode X.2.1 pc = .ok (.putfield 22, 3)) (hs : zSim X fr P (pc + 3) k) : zSim X fr P pc (xpfR 20 2 k) := sm_putR (ci := 4) (n := 2) (ty := tyX4 2) rfl (by decide) rfl rfl (zputF (C := RX4) (T := TX4) (N := 16) (ty0 := tyX4) (ty := tyX4 2) inz4 tyX4_ok nmX4 rfl (by decide) (by rw [h1]; exact wd_131) rfl rfl h2 (by rw [h1]; rfl) dg) hs
theorem pf_X4_26 [zGh] {d : Nat} {X : zM} {fr : Nat} {P : zP d} {pc : Nat} {k : zK d} (h1 : X.1 = RX4) (h2 : X.2.2.2.2 = "<init>") (dg : decode X.2.1 pc = .ok (.putfield 26, 3)) (hs : zSim X fr P (pc + 3) k) : zSim X fr P pc (xpfR 20 3 k) := sm_putR (ci := 4) (n := 3) (ty := tyX4 3) rfl (by decide) rfl rfl (zputF (C := RX4) (T := TX4) (N := 16) (ty0 := tyX4) (ty := tyX4 3) inz4 tyX4_ok nmX4 rfl (by decide) (by rw [h1]; exact wd_136) rfl rfl h2 (by rw [h1]; rfl) dg) hs
theorem pf_X4_29 [zGh] {d : Nat} {X : zM} {fr : Nat} {P : zP d} {pc : Nat} {k : zK d} (h1 : X.1 = RX4) (h2 : X.2.2.2.2 = "<init>") (dg : decode X.2.1 pc = .ok (.putfield 29, 3)) (hs : zSim X fr P (pc + 3) k) : zSim X fr P pc (xpfR 20 4 k) := sm_putR (ci := 4) (n := 4) (ty := tyX4 4) rfl (by decide) rfl rfl (zputF (C := RX4) (T := TX4) (N := 16) (ty0 := tyX4) (ty := tyX4 4) inz4 tyX4_ok nmX4 rfl (by decide) (by rw [h1]; exact wd_138) rfl rfl h2 (by rw [h1]; rfl) dg) hs
theorem cr_X4_32 {X : zM} {fr frc pc mc ms : Nat} (h1 : X.1 = RX4) (hfr : frc + 1 ≤ fr) (dg : decode X.2.1 pc = .ok (.invokevirtual 32, 3)) : zRun X (RX4, cX4_layOut, 4, none, "layOut") yX4_layOut fr frc pc 1 mc ms (fun ws As => ∃ (b : Nat) (As' : List Value) (q0 : Nat) (fs : List Value), As = .ref b :: As' ∧ ws[q0]? = some (b, .inr (4, fs))) := zrunV (n := 0) (ci := 4) rfl rfl wd_84 wd_4 (by rw [h1]; exact wd_81) wd_83 ws_1 (by decide) hfr (by decide) dg
theorem cr_X4_35 {X : zM} {fr frc pc mc ms : Nat} (h1 : X.1 = RX4) (hfr : frc + 1 ≤ fr) (dg : decode X.2.1 pc = .ok (.invokevirtual 35, 3)) : zRun X (RX4, cX4_countTableaux, 4, (some .int), "countTableaux") yX4_countTableaux fr frc pc 1 mc ms (fun ws As => ∃ (b : Nat) (As' : List Value) (q0 : Nat) (fs : List Value), As = .ref b :: As' ∧ ws[q0]? = some (b, .inr (4, fs))) := zrunV (n := 0) (ci := 4) rfl rfl wd_88 wd_4 (by rw [h1]; exact wd_85) wd_87 ws_2 (by decide) hfr (by decide) dg
theorem pf_X4_39 [zGh] {d : Nat} {X : zM} {fr : Nat} {P : zP d} {pc : Nat} {k : zK d} (h1 : X.1 = RX4) (h2 : X.2.2.2.2 = "<init>") (dg : decode X.2.1 pc = .ok (.putfield 39, 3)) (hs : zSim X fr P (pc + 3) k) : zSim X fr P pc (xpfI 20 5 k) := sm_putI (ci := 4) (n := 5) (ty := tyX4 5) rfl (by decide) rfl rfl (zputF (C := RX4) (T := TX4) (N := 16) (ty0 := tyX4) (ty := tyX4 5) inz4 tyX4_ok nmX4 rfl (by decide) (by rw [h1]; exact wd_140) rfl rfl h2 (by rw [h1]; rfl) dg) hs
theorem pf_X4_42 [zGh] {d : Nat} {X : zM} {fr : Nat} {P : zP d} {pc : Nat} {k : zK d} (h1 : X.1 = RX4) (h2 : X.2.2.2.2 = "<init>") (dg : decode X.2.1 pc = .ok (.putfield 42, 3)) (hs : zSim X fr P (pc + 3) k) : zSim X fr P pc (xpfR 20 14 k) := sm_putR (ci := 4) (n := 14) (ty := tyX4 14) rfl (by decide) rfl rfl (zputF (C := RX4) (T := TX4) (N := 16) (ty0 := tyX4) (ty := tyX4 14) inz4 tyX4_ok nmX4 rfl (by decide) (by rw [h1]; exact wd_154) rfl rfl h2 (by rw [h1]; rfl) dg) hs
theorem pf_X4_45 [zGh] {d : Nat} {X : zM} {fr : Nat} {P : zP d} {pc : Nat} {k : zK d} (h1 : X.1 = RX4) (h2 : X.2.2.2.2 = "<init>") (dg : decode X.2.1 pc = .ok (.putfield 45, 3)) (hs : zSim X fr P (pc + 3) k) : zSim X fr P pc (xpfR 20 15 k) := sm_putR (ci := 4) (n := 15) (ty := tyX4 15) rfl (by decide) rfl rfl (zputF (C := RX4) (T := TX4) (N := 16) (ty0 := tyX4) (ty := tyX4 15) inz4 tyX4_ok nmX4 rfl (by decide) (by rw [h1]; exact wd_155) rfl rfl h2 (by rw [h1]; rfl) dg) hs
theorem pf_X4_50 [zGh] {d : Nat} {X : zM} {fr : Nat} {P : zP d} {pc : Nat} {k : zK d} (h1 : X.1 = RX4) (h2 : X.2.2.2.2 = "<init>") (dg : decode X.2.1 pc = .ok (.putfield 50, 3)) (hs : zSim X fr P (pc + 3) k) : zSim X fr P pc (xpfR 20 6 k) := sm_putR (ci := 4) (n := 6) (ty := tyX4 6) rfl (by decide) rfl rfl (zputF (C := RX4) (T := TX4) (N := 16) (ty0 := tyX4) (ty := tyX4 6) inz4 tyX4_ok nmX4 rfl (by decide) (by rw [h1]; exact wd_143) rfl rfl h2 (by rw [h1]; rfl) dg) hs
theorem cr_X4_57 {X : zM} {fr frc pc mc ms : Nat} (h1 : X.1 = RX4) (hfr : frc + 1 ≤ fr) (dg : decode X.2.1 pc = .ok (.invokevirtual 57, 3)) : zRun X (RX4, cX4_countWays, 3, (some .int), "countWays") yX4_countWays fr frc pc 1 mc ms (fun ws As => ∃ (b : Nat) (As' : List Value) (q0 : Nat) (fs : List Value), As = .ref b :: As' ∧ ws[q0]? = some (b, .inr (4, fs))) := zrunV (n := 0) (ci := 4) rfl rfl wd_109 wd_4 (by rw [h1]; exact wd_106) wd_108 ws_4 (by decide) hfr (by decide) dg
theorem pf_X4_60 [zGh] {d : Nat} {X : zM} {fr : Nat} {P : zP d} {pc : Nat} {k : zK d} (h1 : X.1 = RX4) (h2 : X.2.2.2.2 = "<init>") (dg : decode X.2.1 pc = .ok (.putfield 60, 3)) (hs : zSim X fr P (pc + 3) k) : zSim X fr P pc (xpfI 20 8 k) := sm_putI (ci := 4) (n := 8) (ty := tyX4 8) rfl (by decide) rfl rfl (zputF (C := RX4) (T := TX4) (N := 16) (ty0 := tyX4) (ty := tyX4 8) inz4 tyX4_ok nmX4 rfl (by decide) (by rw [h1]; exact wd_148) rfl rfl h2 (by rw [h1]; rfl) dg) hs
theorem pf_X4_63 [zGh] {d : Nat} {X : zM} {fr : Nat} {P : zP d} {pc : Nat} {k : zK d} (h1 : X.1 = RX4) (h2 : X.2.2.2.2 = "<init>") (dg : decode X.2.1 pc = .ok (.putfield 63, 3)) (hs : zSim X fr P (pc + 3) k) : zSim X fr P pc (xpfR 20 9 k) := sm_putR (ci := 4) (n := 9) (ty := tyX4 9) rfl (by decide) rfl rfl (zputF (C := RX4) (T := TX4) (N := 16) (ty0 := tyX4) (ty := tyX4 9) inz4 tyX4_ok nmX4 rfl (by decide) (by rw [h1]; exact wd_149) rfl rfl h2 (by rw [h1]; rfl) dg) hs
theorem pf_X4_66 [zGh] {d : Nat} {X : zM} {fr : Nat} {P : zP d} {pc : Nat} {k : zK d} (h1 : X.1 = RX4) (h2 : X.2.2.2.2 = "<init>") (dg : decode X.2.1 pc = .ok (.putfield 66, 3)) (hs : zSim X fr P (pc + 3) k) : zSim X fr P pc (xpfR 20 10 k) := sm_putR (ci := 4) (n := 10) (ty := tyX4 10) rfl (by decide) rfl rfl (zputF (C := RX4) (T := TX4) (N := 16) (ty0 := tyX4) (ty := tyX4 10) inz4 tyX4_ok nmX4 rfl (by decide) (by rw [h1]; exact wd_150) rfl rfl h2 (by rw [h1]; rfl) dg) hs
theorem cr_X4_72 {X : zM} {fr frc pc mc ms : Nat} (h1 : X.1 = RX4) (hfr : frc + 1 ≤ fr) (dg : decode X.2.1 pc = .ok (.invokestatic 72, 3)) : zRun X (RJ7, cJ7_fill_53178, 4, none, "fill") yJ7_fill_53178 fr frc pc 2 mc ms (fun _ _ => True) := zrunS (n := 2) wd_112 wd_5 (by rw [h1]; exact wd_110) wd_111 (by decide) hfr (by decide) dg
theorem pf_X4_80 [zGh] {d : Nat} {X : zM} {fr : Nat} {P : zP d} {pc : Nat} {k : zK d} (h1 : X.1 = RX4) (h2 : X.2.2.2.2 = "<init>") (dg : decode X.2.1 pc = .ok (.putfield 80, 3)) (hs : zSim X fr P (pc + 3) k) : zSim X fr P pc (xpfR 20 12 k) := sm_putR (ci := 4) (n := 12) (ty := tyX4 12) rfl (by decide) rfl rfl (zputF (C := RX4) (T := TX4) (N := 16) (ty0 := tyX4) (ty := tyX4 12) inz4 tyX4_ok nmX4 rfl (by decide) (by rw [h1]; exact wd_152) rfl rfl h2 (by rw [h1]; rfl) dg) hs
theorem cr_X4_83 {X : zM} {fr frc pc mc ms : Nat} (h1 : X.1 = RX4) (hfr : frc + 1 ≤ fr) (dg : decode X.2.1 pc = .ok (.invokevirtual 83, 3)) : zRun X (RX4, cX4_weighNumbers, 3, none, "weighNumbers") yX4_weighNumbers fr frc pc 1 mc ms (fun ws As => ∃ (b : Nat) (As' : List Value) (q0 : Nat) (fs : List Value), As = .ref b :: As' ∧ ws[q0]? = some (b, .inr (4, fs))) := zrunV (n := 0) (ci := 4) rfl rfl wd_126 wd_4 (by rw [h1]; exact wd_123) wd_125 ws_6 (by decide) hfr (by decide) dg
theorem pf_X4_86 [zGh] {d : Nat} {X : zM} {fr : Nat} {P : zP d} {pc : Nat} {k : zK d} (h1 : X.1 = RX4) (h2 : X.2.2.2.2 = "<init>") (dg : decode X.2.1 pc = .ok (.putfield 86, 3)) (hs : zSim X fr P (pc + 3) k) : zSim X fr P pc (xpfR 20 11 k) := sm_putR (ci := 4) (n := 11) (ty := tyX4 11) rfl (by decide) rfl rfl (zputF (C := RX4) (T := TX4) (N := 16) (ty0 := tyX4) (ty := tyX4 11) inz4 tyX4_ok nmX4 rfl (by decide) (by rw [h1]; exact wd_151) rfl rfl h2 (by rw [h1]; rfl) dg) hs
theorem pf_X4_89 [zGh] {d : Nat} {X : zM} {fr : Nat} {P : zP d} {pc : Nat} {k : zK d} (h1 : X.1 = RX4) (h2 : X.2.2.2.2 = "<init>") (dg : decode X.2.1 pc = .ok (.putfield 89, 3)) (hs : zSim X fr P (pc + 3) k) : zSim X fr P pc (xpfR 20 7 k) := sm_putR (ci := 4) (n := 7) (ty := tyX4 7) rfl (by decide) rfl rfl (zputF (C := RX4) (T := TX4) (N := 16) (ty0 := tyX4) (ty := tyX4 7) inz4 tyX4_ok nmX4 rfl (by decide) (by rw [h1]; exact wd_145) rfl rfl h2 (by rw [h1]; rfl) dg) hs
theorem gf_X7_19 [zGh] {d : Nat} {X : zM} {fr : Nat} {P : zP d} {pc : Nat} {k : zK d} (h1 : X.1 = RX7) (dg : decode X.2.1 pc = .ok (.getfield 19, 3)) (hs : zSim X fr P (pc + 3) k) : zSim X fr P pc (xgfI 23 1 k) := sm_getfieldI (ci := 7) (n := 1) (C := RX7) (T := TX7) (N := 14) rfl rfl inz7 rfl (by decide) rfl (by rw [h1]; exact wd_264) rfl dg hs
theorem gf_X7_24 [zGh] {d : Nat} {X : zM} {fr : Nat} {P : zP d} {pc : Nat} {k : zK d} (h1 : X.1 = RX7) (dg : decode X.2.1 pc = .ok (.getfield 24, 3)) (hs : zSim X fr P (pc + 3) k) : zSim X fr P pc (xgfR 23 3 k) := sm_getfieldR (ci := 7) (n := 3) (C := RX7) (T := TX7) (N := 14) rfl rfl inz7 rfl (by decide) rfl (by rw [h1]; exact wd_270) rfl dg hs
theorem gf_X7_98 [zGh] {d : Nat} {X : zM} {fr : Nat} {P : zP d} {pc : Nat} {k : zK d} (h1 : X.1 = RX7) (dg : decode X.2.1 pc = .ok (.getfield 98, 3)) (hs : zSim X fr P (pc + 3) k) : zSim X fr P pc (xgfR 20 2 k) := sm_getfieldR (ci := 4) (n := 2) (C := RX4) (T := TX4) (N := 16) rfl rfl inz4 rfl (by decide) rfl (by rw [h1]; exact wd_133) rfl dg hs
theorem gf_X7_9 [zGh] {d : Nat} {X : zM} {fr : Nat} {P : zP d} {pc : Nat} {k : zK d} (h1 : X.1 = RX7) (dg : decode X.2.1 pc = .ok (.getfield 9, 3)) (hs : zSim X fr P (pc + 3) k) : zSim X fr P pc (xgfI 23 0 k) := sm_getfieldI (ci := 7) (n := 0) (C := RX7) (T := TX7) (N := 14) rfl rfl inz7 rfl (by decide) rfl (by rw [h1]; exact wd_260) rfl dg hs
theorem cr_X7_101 {X : zM} {fr frc pc mc ms : Nat} (h1 : X.1 = RX7) (hfr : frc + 1 ≤ fr) (dg : decode X.2.1 pc = .ok (.invokespecial 101, 3)) : zRun X (RX4, cX4_init, 4, none, "<init>") yX4_init fr frc pc 4 mc ms (fun ws As => ∃ (b : Nat) (As' : List Value) (q0 : Nat) (fs : List Value), As = .ref b :: As' ∧ ws[q0]? = some (b, .inr (4, fs))) := zrunI (n := 3) (ci := 4) wd_63 rfl wd_4 (by rw [h1]; exact wd_61) wd_62 rfl (by decide) hfr (by decide) dg
theorem cr_X7_104 {X : zM} {fr frc pc mc ms : Nat} (h1 : X.1 = RX7) (hfr : frc + 1 ≤ fr) (dg : decode X.2.1 pc = .ok (.invokestatic 104, 3)) : zRun X (RX7, cX7_stepOn, 6, (some .int), "stepOn") yX7_stepOn fr frc pc 2 mc ms (fun _ _ => True) := zrunS (n := 2) wd_191 wd_3 (by rw [h1]; exact wd_189) wd_190 (by decide) hfr (by decide) dg
theorem gf_X7_44 [zGh] {d : Nat} {X : zM} {fr : Nat} {P : zP d} {pc : Nat} {k : zK d} (h1 : X.1 = RX7) (dg : decode X.2.1 pc = .ok (.getfield 44, 3)) (hs : zSim X fr P (pc + 3) k) : zSim X fr P pc (xgfR 23 6 k) := sm_getfieldR (ci := 7) (n := 6) (C := RX7) (T := TX7) (N := 14) rfl rfl inz7 rfl (by decide) rfl (by rw [h1]; exact wd_278) rfl dg hs
theorem gf_X7_47 [zGh] {d : Nat} {X : zM} {fr : Nat} {P : zP d} {pc : Nat} {k : zK d} (h1 : X.1 = RX7) (dg : decode X.2.1 pc = .ok (.getfield 47, 3)) (hs : zSim X fr P (pc + 3) k) : zSim X fr P pc (xgfR 23 7 k) := sm_getfieldR (ci := 7) (n := 7) (C := RX7) (T := TX7) (N := 14) rfl rfl inz7 rfl (by decide) rfl (by rw [h1]; exact wd_281) rfl dg hs
theorem gf_X7_50 [zGh] {d : Nat} {X : zM} {fr : Nat} {P : zP d} {pc : Nat} {k : zK d} (h1 : X.1 = RX7) (dg : decode X.2.1 pc = .ok (.getfield 50, 3)) (hs : zSim X fr P (pc + 3) k) : zSim X fr P pc (xgfR 23 8 k) := sm_getfieldR (ci := 7) (n := 8) (C := RX7) (T := TX7) (N := 14) rfl rfl inz7 rfl (by decide) rfl (by rw [h1]; exact wd_284) rfl dg hs
theorem gf_X7_41 [zGh] {d : Nat} {X : zM} {fr : Nat} {P : zP d} {pc : Nat} {k : zK d} (h1 : X.1 = RX7) (dg : decode X.2.1 pc = .ok (.getfield 41, 3)) (hs : zSim X fr P (pc + 3) k) : zSim X fr P pc (xgfR 23 5 k) := sm_getfieldR (ci := 7) (n := 5) (C := RX7) (T := TX7) (N := 14) rfl rfl inz7 rfl (by decide) rfl (by rw [h1]; exact wd_276) rfl dg hs
theorem gf_X7_35 [zGh] {d : Nat} {X : zM} {fr : Nat} {P : zP d} {pc : Nat} {k : zK d} (h1 : X.1 = RX7) (dg : decode X.2.1 pc = .ok (.getfield 35, 3)) (hs : zSim X fr P (pc + 3) k) : zSim X fr P pc (xgfI 23 2 k) := sm_getfieldI (ci := 7) (n := 2) (C := RX7) (T := TX7) (N := 14) rfl rfl inz7 rfl (by decide) rfl (by rw [h1]; exact wd_268) rfl dg hs
theorem cr_X7_113 {X : zM} {fr frc pc mc ms : Nat} (h1 : X.1 = RX7) (hfr : frc + 1 ≤ fr) (dg : decode X.2.1 pc = .ok (.invokestatic 113, 3)) : zRun X (RX7, cX7_leastMultiple, 4, (some .int), "leastMultiple") yX7_leastMultiple fr frc pc 2 mc ms (fun _ _ => True) := zrunS (n := 2) wd_201 wd_3 (by rw [h1]; exact wd_199) wd_200 (by decide) hfr (by decide) dg
theorem gf_X7_58 [zGh] {d : Nat} {X : zM} {fr : Nat} {P : zP d} {pc : Nat} {k : zK d} (h1 : X.1 = RX7) (dg : decode X.2.1 pc = .ok (.getfield 58, 3)) (hs : zSim X fr P (pc + 3) k) : zSim X fr P pc (xgfR 23 10 k) := sm_getfieldR (ci := 7) (n := 10) (C := RX7) (T := TX7) (N := 14) rfl rfl inz7 rfl (by decide) rfl (by rw [h1]; exact wd_288) rfl dg hs
theorem cr_X7_120 {X : zM} {fr frc pc mc ms : Nat} (h1 : X.1 = RX7) (hfr : frc + 1 ≤ fr) (dg : decode X.2.1 pc = .ok (.invokestatic 120, 3)) : zRun X (RX8, cX8_greatestDivisor, 11, (some .long), "greatestDivisor") yX8_greatestDivisor fr frc pc 2 mc ms (fun _ _ => True) := zrunSN (n := 2) (host := "PrimeBlocks") wd_216 wd_1 (by rw [h1]; decide) wd_215 (by decide) hfr (by decide) dg
theorem gf_X7_55 [zGh] {d : Nat} {X : zM} {fr : Nat} {P : zP d} {pc : Nat} {k : zK d} (h1 : X.1 = RX7) (dg : decode X.2.1 pc = .ok (.getfield 55, 3)) (hs : zSim X fr P (pc + 3) k) : zSim X fr P pc (xgfR 23 9 k) := sm_getfieldR (ci := 7) (n := 9) (C := RX7) (T := TX7) (N := 14) rfl rfl inz7 rfl (by decide) rfl (by rw [h1]; exact wd_286) rfl dg hs
theorem cr_X7_116 {X : zM} {fr frc pc mc ms : Nat} (h1 : X.1 = RX7) (hfr : frc + 1 ≤ fr) (dg : decode X.2.1 pc = .ok (.invokevirtual 116, 3)) : zRun X (RX7, cX7_raise, 9, (some .int), "raise") yX7_raise fr frc pc 4 mc ms (fun ws As => ∃ (b : Nat) (As' : List Value) (q0 : Nat) (fs : List Value), As = .ref b :: As' ∧ ws[q0]? = some (b, .inr (7, fs))) := zrunV (n := 3) (ci := 7) rfl rfl wd_213 wd_3 (by rw [h1]; exact wd_210) wd_212 ws_9 (by decide) hfr (by decide) dg
theorem cr_X7_74 {X : zM} {fr frc pc mc ms : Nat} (h1 : X.1 = RX7) (hfr : frc + 1 ≤ fr) (dg : decode X.2.1 pc = .ok (.invokevirtual 74, 3)) : zRun X (RX7, cX7_numberOf, 6, (some .int), "numberOf") yX7_numberOf fr frc pc 3 mc ms (fun ws As => ∃ (b : Nat) (As' : List Value) (q0 : Nat) (fs : List Value), As = .ref b :: As' ∧ ws[q0]? = some (b, .inr (7, fs))) := zrunV (n := 2) (ci := 7) rfl rfl wd_205 wd_3 (by rw [h1]; exact wd_202) wd_203 wd_204 (by decide) hfr (by decide) dg
theorem cr_X7_129 {X : zM} {fr frc pc mc ms : Nat} (h1 : X.1 = RX7) (hfr : frc + 1 ≤ fr) (dg : decode X.2.1 pc = .ok (.invokestatic 129, 3)) : zRun X (RX7, cX7_placings, 6, (some .int), "placings") yX7_placings fr frc pc 3 mc ms (fun _ _ => True) := zrunS (n := 3) wd_225 wd_3 (by rw [h1]; exact wd_223) wd_224 (by decide) hfr (by decide) dg
theorem gf_X7_61 [zGh] {d : Nat} {X : zM} {fr : Nat} {P : zP d} {pc : Nat} {k : zK d} (h1 : X.1 = RX7) (dg : decode X.2.1 pc = .ok (.getfield 61, 3)) (hs : zSim X fr P (pc + 3) k) : zSim X fr P pc (xgfR 23 11 k) := sm_getfieldR (ci := 7) (n := 11) (C := RX7) (T := TX7) (N := 14) rfl rfl inz7 rfl (by decide) rfl (by rw [h1]; exact wd_290) rfl dg hs
theorem gf_X7_64 [zGh] {d : Nat} {X : zM} {fr : Nat} {P : zP d} {pc : Nat} {k : zK d} (h1 : X.1 = RX7) (dg : decode X.2.1 pc = .ok (.getfield 64, 3)) (hs : zSim X fr P (pc + 3) k) : zSim X fr P pc (xgfR 23 12 k) := sm_getfieldR (ci := 7) (n := 12) (C := RX7) (T := TX7) (N := 14) rfl rfl inz7 rfl (by decide) rfl (by rw [h1]; exact wd_292) rfl dg hs
theorem cr_X7_138 {X : zM} {fr frc pc mc ms : Nat} (h1 : X.1 = RX7) (hfr : frc + 1 ≤ fr) (dg : decode X.2.1 pc = .ok (.invokevirtual 138, 3)) : zRun X (RX7, cX7_timesIn, 5, (some .int), "timesIn") yX7_timesIn fr frc pc 3 mc ms (fun ws As => ∃ (b : Nat) (As' : List Value) (q0 : Nat) (fs : List Value), As = .ref b :: As' ∧ ws[q0]? = some (b, .inr (7, fs))) := zrunV (n := 2) (ci := 7) rfl rfl wd_234 wd_3 (by rw [h1]; exact wd_231) wd_233 ws_12 (by decide) hfr (by decide) dg
theorem cr_X7_142 {X : zM} {fr frc pc mc ms : Nat} (h1 : X.1 = RX7) (hfr : frc + 1 ≤ fr) (dg : decode X.2.1 pc = .ok (.invokevirtual 142, 3)) : zRun X (RX4, cX4_codeCount, 3, (some .int), "codeCount") yX4_codeCount fr frc pc 1 mc ms (fun ws As => ∃ (b : Nat) (As' : List Value) (q0 : Nat) (fs : List Value), As = .ref b :: As' ∧ ws[q0]? = some (b, .inr (4, fs))) := zrunV (n := 0) (ci := 4) rfl rfl wd_242 wd_4 (by rw [h1]; exact wd_239) wd_240 wd_241 (by decide) hfr (by decide) dg
theorem pf_X7_9 [zGh] {d : Nat} {X : zM} {fr : Nat} {P : zP d} {pc : Nat} {k : zK d} (h1 : X.1 = RX7) (h2 : X.2.2.2.2 = "<init>") (dg : decode X.2.1 pc = .ok (.putfield 9, 3)) (hs : zSim X fr P (pc + 3) k) : zSim X fr P pc (xpfI 23 0 k) := sm_putI (ci := 7) (n := 0) (ty := tyX7 0) rfl (by decide) rfl rfl (zputF (C := RX7) (T := TX7) (N := 14) (ty0 := tyX7) (ty := tyX7 0) inz7 tyX7_ok nmX7 rfl (by decide) (by rw [h1]; exact wd_260) rfl rfl h2 (by rw [h1]; rfl) dg) hs
theorem pf_X7_19 [zGh] {d : Nat} {X : zM} {fr : Nat} {P : zP d} {pc : Nat} {k : zK d} (h1 : X.1 = RX7) (h2 : X.2.2.2.2 = "<init>") (dg : decode X.2.1 pc = .ok (.putfield 19, 3)) (hs : zSim X fr P (pc + 3) k) : zSim X fr P pc (xpfI 23 1 k) := sm_putI (ci := 7) (n := 1) (ty := tyX7 1) rfl (by decide) rfl rfl (zputF (C := RX7) (T := TX7) (N := 14) (ty0 := tyX7) (ty := tyX7 1) inz7 tyX7_ok nmX7 rfl (by decide) (by rw [h1]; exact wd_264) rfl rfl h2 (by rw [h1]; rfl) dg) hs
theorem pf_X7_24 [zGh] {d : Nat} {X : zM} {fr : Nat} {P : zP d} {pc : Nat} {k : zK d} (h1 : X.1 = RX7) (h2 : X.2.2.2.2 = "<init>") (dg : decode X.2.1 pc = .ok (.putfield 24, 3)) (hs : zSim X fr P (pc + 3) k) : zSim X fr P pc (xpfR 23 3 k) := sm_putR (ci := 7) (n := 3) (ty := tyX7 3) rfl (by decide) rfl rfl (zputF (C := RX7) (T := TX7) (N := 14) (ty0 := tyX7) (ty := tyX7 3) inz7 tyX7_ok nmX7 rfl (by decide) (by rw [h1]; exact wd_270) rfl rfl h2 (by rw [h1]; rfl) dg) hs
theorem cr_X7_28 {X : zM} {fr frc pc mc ms : Nat} (h1 : X.1 = RX7) (hfr : frc + 1 ≤ fr) (dg : decode X.2.1 pc = .ok (.invokevirtual 28, 3)) : zRun X (RX7, cX7_makeShapes, 4, none, "makeShapes") yX7_makeShapes fr frc pc 1 mc ms (fun ws As => ∃ (b : Nat) (As' : List Value) (q0 : Nat) (fs : List Value), As = .ref b :: As' ∧ ws[q0]? = some (b, .inr (7, fs))) := zrunV (n := 0) (ci := 7) rfl rfl wd_59 wd_3 (by rw [h1]; exact wd_56) wd_58 ws_0 (by decide) hfr (by decide) dg
theorem cr_X7_31 {X : zM} {fr frc pc mc ms : Nat} (h1 : X.1 = RX7) (hfr : frc + 1 ≤ fr) (dg : decode X.2.1 pc = .ok (.invokestatic 31, 3)) : zRun X (RX8, cX8_factorialOf, 3, (some .int), "factorialOf") yX8_factorialOf fr frc pc 1 mc ms (fun _ _ => True) := zrunSN (n := 1) (host := "PrimeBlocks") wd_95 wd_1 (by rw [h1]; decide) wd_94 (by decide) hfr (by decide) dg
theorem pf_X7_35 [zGh] {d : Nat} {X : zM} {fr : Nat} {P : zP d} {pc : Nat} {k : zK d} (h1 : X.1 = RX7) (h2 : X.2.2.2.2 = "<init>") (dg : decode X.2.1 pc = .ok (.putfield 35, 3)) (hs : zSim X fr P (pc + 3) k) : zSim X fr P pc (xpfI 23 2 k) := sm_putI (ci := 7) (n := 2) (ty := tyX7 2) rfl (by decide) rfl rfl (zputF (C := RX7) (T := TX7) (N := 14) (ty0 := tyX7) (ty := tyX7 2) inz7 tyX7_ok nmX7 rfl (by decide) (by rw [h1]; exact wd_268) rfl rfl h2 (by rw [h1]; rfl) dg) hs
theorem pf_X7_38 [zGh] {d : Nat} {X : zM} {fr : Nat} {P : zP d} {pc : Nat} {k : zK d} (h1 : X.1 = RX7) (h2 : X.2.2.2.2 = "<init>") (dg : decode X.2.1 pc = .ok (.putfield 38, 3)) (hs : zSim X fr P (pc + 3) k) : zSim X fr P pc (xpfR 23 4 k) := sm_putR (ci := 7) (n := 4) (ty := tyX7 4) rfl (by decide) rfl rfl (zputF (C := RX7) (T := TX7) (N := 14) (ty0 := tyX7) (ty := tyX7 4) inz7 tyX7_ok nmX7 rfl (by decide) (by rw [h1]; exact wd_274) rfl rfl h2 (by rw [h1]; rfl) dg) hs
theorem pf_X7_41 [zGh] {d : Nat} {X : zM} {fr : Nat} {P : zP d} {pc : Nat} {k : zK d} (h1 : X.1 = RX7) (h2 : X.2.2.2.2 = "<init>") (dg : decode X.2.1 pc = .ok (.putfield 41, 3)) (hs : zSim X fr P (pc + 3) k) : zSim X fr P pc (xpfR 23 5 k) := sm_putR (ci := 7) (n := 5) (ty := tyX7 5) rfl (by decide) rfl rfl (zputF (C := RX7) (T := TX7) (N := 14) (ty0 := tyX7) (ty := tyX7 5) inz7 tyX7_ok nmX7 rfl (by decide) (by rw [h1]; exact wd_276) rfl rfl h2 (by rw [h1]; rfl) dg) hs
theorem pf_X7_44 [zGh] {d : Nat} {X : zM} {fr : Nat} {P : zP d} {pc : Nat} {k : zK d} (h1 : X.1 = RX7) (h2 : X.2.2.2.2 = "<init>") (dg : decode X.2.1 pc = .ok (.putfield 44, 3)) (hs : zSim X fr P (pc + 3) k) : zSim X fr P pc (xpfR 23 6 k) := sm_putR (ci := 7) (n := 6) (ty := tyX7 6) rfl (by decide) rfl rfl (zputF (C := RX7) (T := TX7) (N := 14) (ty0 := tyX7) (ty := tyX7 6) inz7 tyX7_ok nmX7 rfl (by decide) (by rw [h1]; exact wd_278) rfl rfl h2 (by rw [h1]; rfl) dg) hs
theorem pf_X7_47 [zGh] {d : Nat} {X : zM} {fr : Nat} {P : zP d} {pc : Nat} {k : zK d} (h1 : X.1 = RX7) (h2 : X.2.2.2.2 = "<init>") (dg : decode X.2.1 pc = .ok (.putfield 47, 3)) (hs : zSim X fr P (pc + 3) k) : zSim X fr P pc (xpfR 23 7 k) := sm_putR (ci := 7) (n := 7) (ty := tyX7 7) rfl (by decide) rfl rfl (zputF (C := RX7) (T := TX7) (N := 14) (ty0 := tyX7) (ty := tyX7 7) inz7 tyX7_ok nmX7 rfl (by decide) (by rw [h1]; exact wd_281) rfl rfl h2 (by rw [h1]; rfl) dg) hs
theorem pf_X7_50 [zGh] {d : Nat} {X : zM} {fr : Nat} {P : zP d} {pc : Nat} {k : zK d} (h1 : X.1 = RX7) (h2 : X.2.2.2.2 = "<init>") (dg : decode X.2.1 pc = .ok (.putfield 50, 3)) (hs : zSim X fr P (pc + 3) k) : zSim X fr P pc (xpfR 23 8 k) := sm_putR (ci := 7) (n := 8) (ty := tyX7 8) rfl (by decide) rfl rfl (zputF (C := RX7) (T := TX7) (N := 14) (ty0 := tyX7) (ty := tyX7 8) inz7 tyX7_ok nmX7 rfl (by decide) (by rw [h1]; exact wd_284) rfl rfl h2 (by rw [h1]; rfl) dg) hs
theorem pf_X7_55 [zGh] {d : Nat} {X : zM} {fr : Nat} {P : zP d} {pc : Nat} {k : zK d} (h1 : X.1 = RX7) (h2 : X.2.2.2.2 = "<init>") (dg : decode X.2.1 pc = .ok (.putfield 55, 3)) (hs : zSim X fr P (pc + 3) k) : zSim X fr P pc (xpfR 23 9 k) := sm_putR (ci := 7) (n := 9) (ty := tyX7 9) rfl (by decide) rfl rfl (zputF (C := RX7) (T := TX7) (N := 14) (ty0 := tyX7) (ty := tyX7 9) inz7 tyX7_ok nmX7 rfl (by decide) (by rw [h1]; exact wd_286) rfl rfl h2 (by rw [h1]; rfl) dg) hs
theorem pf_X7_58 [zGh] {d : Nat} {X : zM} {fr : Nat} {P : zP d} {pc : Nat} {k : zK d} (h1 : X.1 = RX7) (h2 : X.2.2.2.2 = "<init>") (dg : decode X.2.1 pc = .ok (.putfield 58, 3)) (hs : zSim X fr P (pc + 3) k) : zSim X fr P pc (xpfR 23 10 k) := sm_putR (ci := 7) (n := 10) (ty := tyX7 10) rfl (by decide) rfl rfl (zputF (C := RX7) (T := TX7) (N := 14) (ty0 := tyX7) (ty := tyX7 10) inz7 tyX7_ok nmX7 rfl (by decide) (by rw [h1]; exact wd_288) rfl rfl h2 (by rw [h1]; rfl) dg) hs
theorem pf_X7_61 [zGh] {d : Nat} {X : zM} {fr : Nat} {P : zP d} {pc : Nat} {k : zK d} (h1 : X.1 = RX7) (h2 : X.2.2.2.2 = "<init>") (dg : decode X.2.1 pc = .ok (.putfield 61, 3)) (hs : zSim X fr P (pc + 3) k) : zSim X fr P pc (xpfR 23 11 k) := sm_putR (ci := 7) (n := 11) (ty := tyX7 11) rfl (by decide) rfl rfl (zputF (C := RX7) (T := TX7) (N := 14) (ty0 := tyX7) (ty := tyX7 11) inz7 tyX7_ok nmX7 rfl (by decide) (by rw [h1]; exact wd_290) rfl rfl h2 (by rw [h1]; rfl) dg) hs
theorem pf_X7_64 [zGh] {d : Nat} {X : zM} {fr : Nat} {P : zP d} {pc : Nat} {k : zK d} (h1 : X.1 = RX7) (h2 : X.2.2.2.2 = "<init>") (dg : decode X.2.1 pc = .ok (.putfield 64, 3)) (hs : zSim X fr P (pc + 3) k) : zSim X fr P pc (xpfR 23 12 k) := sm_putR (ci := 7) (n := 12) (ty := tyX7 12) rfl (by decide) rfl rfl (zputF (C := RX7) (T := TX7) (N := 14) (ty0 := tyX7) (ty := tyX7 12) inz7 tyX7_ok nmX7 rfl (by decide) (by rw [h1]; exact wd_292) rfl rfl h2 (by rw [h1]; rfl) dg) hs
theorem cr_X7_78 {X : zM} {fr frc pc mc ms : Nat} (h1 : X.1 = RX7) (hfr : frc + 1 ≤ fr) (dg : decode X.2.1 pc = .ok (.invokevirtual 78, 3)) : zRun X (RX7, cX7_makePowers, 4, none, "makePowers") yX7_makePowers fr frc pc 1 mc ms (fun ws As => ∃ (b : Nat) (As' : List Value) (q0 : Nat) (fs : List Value), As = .ref b :: As' ∧ ws[q0]? = some (b, .inr (7, fs))) := zrunV (n := 0) (ci := 7) rfl rfl wd_209 wd_3 (by rw [h1]; exact wd_206) wd_208 ws_8 (by decide) hfr (by decide) dg
theorem cr_X7_81 {X : zM} {fr frc pc mc ms : Nat} (h1 : X.1 = RX7) (hfr : frc + 1 ≤ fr) (dg : decode X.2.1 pc = .ok (.invokevirtual 81, 3)) : zRun X (RX7, cX7_makeMarks, 4, none, "makeMarks") yX7_makeMarks fr frc pc 1 mc ms (fun ws As => ∃ (b : Nat) (As' : List Value) (q0 : Nat) (fs : List Value), As = .ref b :: As' ∧ ws[q0]? = some (b, .inr (7, fs))) := zrunV (n := 0) (ci := 7) rfl rfl wd_220 wd_3 (by rw [h1]; exact wd_217) wd_219 ws_10 (by decide) hfr (by decide) dg
theorem cr_X7_84 {X : zM} {fr frc pc mc ms : Nat} (h1 : X.1 = RX7) (hfr : frc + 1 ≤ fr) (dg : decode X.2.1 pc = .ok (.invokevirtual 84, 3)) : zRun X (RX7, cX7_makeCharacters, 5, none, "makeCharacters") yX7_makeCharacters fr frc pc 1 mc ms (fun ws As => ∃ (b : Nat) (As' : List Value) (q0 : Nat) (fs : List Value), As = .ref b :: As' ∧ ws[q0]? = some (b, .inr (7, fs))) := zrunV (n := 0) (ci := 7) rfl rfl wd_229 wd_3 (by rw [h1]; exact wd_226) wd_228 ws_11 (by decide) hfr (by decide) dg
theorem cr_X7_87 {X : zM} {fr frc pc mc ms : Nat} (h1 : X.1 = RX7) (hfr : frc + 1 ≤ fr) (dg : decode X.2.1 pc = .ok (.invokevirtual 87, 3)) : zRun X (RX7, cX7_countCodes, 3, (some .int), "countCodes") yX7_countCodes fr frc pc 1 mc ms (fun ws As => ∃ (b : Nat) (As' : List Value) (q0 : Nat) (fs : List Value), As = .ref b :: As' ∧ ws[q0]? = some (b, .inr (7, fs))) := zrunV (n := 0) (ci := 7) rfl rfl wd_238 wd_3 (by rw [h1]; exact wd_235) wd_237 ws_13 (by decide) hfr (by decide) dg
theorem pf_X7_91 [zGh] {d : Nat} {X : zM} {fr : Nat} {P : zP d} {pc : Nat} {k : zK d} (h1 : X.1 = RX7) (h2 : X.2.2.2.2 = "<init>") (dg : decode X.2.1 pc = .ok (.putfield 91, 3)) (hs : zSim X fr P (pc + 3) k) : zSim X fr P pc (xpfR 23 13 k) := sm_putR (ci := 7) (n := 13) (ty := tyX7 13) rfl (by decide) rfl rfl (zputF (C := RX7) (T := TX7) (N := 14) (ty0 := tyX7) (ty := tyX7 13) inz7 tyX7_ok nmX7 rfl (by decide) (by rw [h1]; exact wd_296) rfl rfl h2 (by rw [h1]; rfl) dg) hs
theorem gf_X7_91 [zGh] {d : Nat} {X : zM} {fr : Nat} {P : zP d} {pc : Nat} {k : zK d} (h1 : X.1 = RX7) (dg : decode X.2.1 pc = .ok (.getfield 91, 3)) (hs : zSim X fr P (pc + 3) k) : zSim X fr P pc (xgfR 23 13 k) := sm_getfieldR (ci := 7) (n := 13) (C := RX7) (T := TX7) (N := 14) rfl rfl inz7 rfl (by decide) rfl (by rw [h1]; exact wd_296) rfl dg hs
theorem cr_X7_94 {X : zM} {fr frc pc mc ms : Nat} (h1 : X.1 = RX7) (hfr : frc + 1 ≤ fr) (dg : decode X.2.1 pc = .ok (.invokevirtual 94, 3)) : zRun X (RX4, cX4_makeForms, 5, none, "makeForms") yX4_makeForms fr frc pc 3 mc ms (fun ws As => ∃ (b : Nat) (As' : List Value) (q0 : Nat) (fs : List Value), As = .ref b :: As' ∧ ws[q0]? = some (b, .inr (4, fs))) := zrunV (n := 2) (ci := 4) rfl rfl wd_247 wd_4 (by rw [h1]; exact wd_244) wd_245 wd_246 (by decide) hfr (by decide) dg
theorem cr_X7_67 {X : zM} {fr frc pc mc ms : Nat} (h1 : X.1 = RX7) (hfr : frc + 1 ≤ fr) (dg : decode X.2.1 pc = .ok (.invokevirtual 67, 3)) : zRun X (RX7, cX7_describeClass, 9, none, "describeClass") yX7_describeClass fr frc pc 2 mc ms (fun ws As => ∃ (b : Nat) (As' : List Value) (q0 : Nat) (fs : List Value), As = .ref b :: As' ∧ ws[q0]? = some (b, .inr (7, fs))) := zrunV (n := 1) (ci := 7) rfl rfl wd_198 wd_3 (by rw [h1]; exact wd_195) wd_197 ws_7 (by decide) hfr (by decide) dg
theorem gf_X7_38 [zGh] {d : Nat} {X : zM} {fr : Nat} {P : zP d} {pc : Nat} {k : zK d} (h1 : X.1 = RX7) (dg : decode X.2.1 pc = .ok (.getfield 38, 3)) (hs : zSim X fr P (pc + 3) k) : zSim X fr P pc (xgfR 23 4 k) := sm_getfieldR (ci := 7) (n := 4) (C := RX7) (T := TX7) (N := 14) rfl rfl inz7 rfl (by decide) rfl (by rw [h1]; exact wd_274) rfl dg hs
theorem gf_X7_71 [zGh] {d : Nat} {X : zM} {fr : Nat} {P : zP d} {pc : Nat} {k : zK d} (h1 : X.1 = RX7) (dg : decode X.2.1 pc = .ok (.getfield 71, 3)) (hs : zSim X fr P (pc + 3) k) : zSim X fr P pc (xgfR 20 3 k) := sm_getfieldR (ci := 4) (n := 3) (C := RX4) (T := TX4) (N := 16) rfl rfl inz4 rfl (by decide) rfl (by rw [h1]; exact wd_137) rfl dg hs
theorem gf_X0_68 [zGh] {d : Nat} {X : zM} {fr : Nat} {P : zP d} {pc : Nat} {k : zK d} (h1 : X.1 = RX0) (dg : decode X.2.1 pc = .ok (.getfield 68, 3)) (hs : zSim X fr P (pc + 3) k) : zSim X fr P pc (xgfI 16 3 k) := sm_getfieldI (ci := 0) (n := 3) (C := RX0) (T := TX0) (N := 8) rfl rfl inz0 rfl (by decide) rfl (by rw [h1]; exact wd_452) rfl dg hs
theorem gf_X0_29 [zGh] {d : Nat} {X : zM} {fr : Nat} {P : zP d} {pc : Nat} {k : zK d} (h1 : X.1 = RX0) (dg : decode X.2.1 pc = .ok (.getfield 29, 3)) (hs : zSim X fr P (pc + 3) k) : zSim X fr P pc (xgfR 16 2 k) := sm_getfieldR (ci := 0) (n := 2) (C := RX0) (T := TX0) (N := 8) rfl rfl inz0 rfl (by decide) rfl (by rw [h1]; exact wd_448) rfl dg hs
theorem gf_X0_35 [zGh] {d : Nat} {X : zM} {fr : Nat} {P : zP d} {pc : Nat} {k : zK d} (h1 : X.1 = RX0) (dg : decode X.2.1 pc = .ok (.getfield 35, 3)) (hs : zSim X fr P (pc + 3) k) : zSim X fr P pc (xgfR 16 5 k) := sm_getfieldR (ci := 0) (n := 5) (C := RX0) (T := TX0) (N := 8) rfl rfl inz0 rfl (by decide) rfl (by rw [h1]; exact wd_456) rfl dg hs
theorem gf_X0_38 [zGh] {d : Nat} {X : zM} {fr : Nat} {P : zP d} {pc : Nat} {k : zK d} (h1 : X.1 = RX0) (dg : decode X.2.1 pc = .ok (.getfield 38, 3)) (hs : zSim X fr P (pc + 3) k) : zSim X fr P pc (xgfR 16 6 k) := sm_getfieldR (ci := 0) (n := 6) (C := RX0) (T := TX0) (N := 8) rfl rfl inz0 rfl (by decide) rfl (by rw [h1]; exact wd_458) rfl dg hs
theorem cr_X0_69 {X : zM} {fr frc pc mc ms : Nat} (h1 : X.1 = RX0) (hfr : frc + 1 ≤ fr) (dg : decode X.2.1 pc = .ok (.invokestatic 69, 3)) : zRun X (RX8, cX8_bit, 1, (some .int), "bit") yX8_bit fr frc pc 1 mc ms (fun _ _ => True) := zrunSN (n := 1) (host := "PrimeBlocks") wd_338 wd_1 (by rw [h1]; decide) wd_337 (by decide) hfr (by decide) dg
theorem gf_X0_32 [zGh] {d : Nat} {X : zM} {fr : Nat} {P : zP d} {pc : Nat} {k : zK d} (h1 : X.1 = RX0) (dg : decode X.2.1 pc = .ok (.getfield 32, 3)) (hs : zSim X fr P (pc + 3) k) : zSim X fr P pc (xgfR 16 4 k) := sm_getfieldR (ci := 0) (n := 4) (C := RX0) (T := TX0) (N := 8) rfl rfl inz0 rfl (by decide) rfl (by rw [h1]; exact wd_454) rfl dg hs
theorem gf_X0_41 [zGh] {d : Nat} {X : zM} {fr : Nat} {P : zP d} {pc : Nat} {k : zK d} (h1 : X.1 = RX0) (dg : decode X.2.1 pc = .ok (.getfield 41, 3)) (hs : zSim X fr P (pc + 3) k) : zSim X fr P pc (xgfR 16 7 k) := sm_getfieldR (ci := 0) (n := 7) (C := RX0) (T := TX0) (N := 8) rfl rfl inz0 rfl (by decide) rfl (by rw [h1]; exact wd_460) rfl dg hs
theorem gf_X0_15 [zGh] {d : Nat} {X : zM} {fr : Nat} {P : zP d} {pc : Nat} {k : zK d} (h1 : X.1 = RX0) (dg : decode X.2.1 pc = .ok (.getfield 15, 3)) (hs : zSim X fr P (pc + 3) k) : zSim X fr P pc (xgfR 16 0 k) := sm_getfieldR (ci := 0) (n := 0) (C := RX0) (T := TX0) (N := 8) rfl rfl inz0 rfl (by decide) rfl (by rw [h1]; exact wd_444) rfl dg hs
theorem cr_X0_77 {X : zM} {fr frc pc mc ms : Nat} (h1 : X.1 = RX0) (hfr : frc + 1 ≤ fr) (dg : decode X.2.1 pc = .ok (.invokestatic 77, 3)) : zRun X (RX0, cX0_powerInFactorial, 5, (some .int), "powerInFactorial") yX0_powerInFactorial fr frc pc 2 mc ms (fun _ _ => True) := zrunS (n := 2) wd_442 wd_11 (by rw [h1]; exact wd_440) wd_441 (by decide) hfr (by decide) dg
theorem pf_X0_68 [zGh] {d : Nat} {X : zM} {fr : Nat} {P : zP d} {pc : Nat} {k : zK d} (h1 : X.1 = RX0) (dg : decode X.2.1 pc = .ok (.putfield 68, 3)) (hs : zSim X fr P (pc + 3) k) : zSim X fr P pc (xpfI 16 3 k) := sm_putI (ci := 0) (n := 3) (ty := tyX0 3) rfl (by decide) rfl rfl (zput (C := RX0) (T := TX0) (N := 8) (ty0 := tyX0) (ty := tyX0 3) inz0 tyX0_ok nmX0 rfl (by decide) (by rw [h1]; exact wd_452) rfl rfl dg) hs
theorem gf_X0_26 [zGh] {d : Nat} {X : zM} {fr : Nat} {P : zP d} {pc : Nat} {k : zK d} (h1 : X.1 = RX0) (dg : decode X.2.1 pc = .ok (.getfield 26, 3)) (hs : zSim X fr P (pc + 3) k) : zSim X fr P pc (xgfR 16 1 k) := sm_getfieldR (ci := 0) (n := 1) (C := RX0) (T := TX0) (N := 8) rfl rfl inz0 rfl (by decide) rfl (by rw [h1]; exact wd_446) rfl dg hs
theorem cr_X0_73 {X : zM} {fr frc pc mc ms : Nat} (h1 : X.1 = RX0) (hfr : frc + 1 ≤ fr) (dg : decode X.2.1 pc = .ok (.invokestatic 73, 3)) : zRun X (RX0, cX0_isSameCore, 3, (some .boolean), "isSameCore") yX0_isSameCore fr frc pc 2 mc ms (fun _ _ => True) := zrunS (n := 2) wd_439 wd_11 (by rw [h1]; exact wd_437) wd_438 (by decide) hfr (by decide) dg
theorem gf_X0_9 [zGh] {d : Nat} {X : zM} {fr : Nat} {P : zP d} {pc : Nat} {k : zK d} (h1 : X.1 = RX0) (dg : decode X.2.1 pc = .ok (.getfield 9, 3)) (hs : zSim X fr P (pc + 3) k) : zSim X fr P pc (xgfI 23 1 k) := sm_getfieldI (ci := 7) (n := 1) (C := RX7) (T := TX7) (N := 14) rfl rfl inz7 rfl (by decide) rfl (by rw [h1]; exact wd_263) rfl dg hs
theorem pf_X0_15 [zGh] {d : Nat} {X : zM} {fr : Nat} {P : zP d} {pc : Nat} {k : zK d} (h1 : X.1 = RX0) (h2 : X.2.2.2.2 = "<init>") (dg : decode X.2.1 pc = .ok (.putfield 15, 3)) (hs : zSim X fr P (pc + 3) k) : zSim X fr P pc (xpfR 16 0 k) := sm_putR (ci := 0) (n := 0) (ty := tyX0 0) rfl (by decide) rfl rfl (zputF (C := RX0) (T := TX0) (N := 8) (ty0 := tyX0) (ty := tyX0 0) inz0 tyX0_ok nmX0 rfl (by decide) (by rw [h1]; exact wd_444) rfl rfl h2 (by rw [h1]; rfl) dg) hs
theorem gf_X0_21 [zGh] {d : Nat} {X : zM} {fr : Nat} {P : zP d} {pc : Nat} {k : zK d} (h1 : X.1 = RX0) (dg : decode X.2.1 pc = .ok (.getfield 21, 3)) (hs : zSim X fr P (pc + 3) k) : zSim X fr P pc (xgfI 23 0 k) := sm_getfieldI (ci := 7) (n := 0) (C := RX7) (T := TX7) (N := 14) rfl rfl inz7 rfl (by decide) rfl (by rw [h1]; exact wd_261) rfl dg hs
theorem pf_X0_26 [zGh] {d : Nat} {X : zM} {fr : Nat} {P : zP d} {pc : Nat} {k : zK d} (h1 : X.1 = RX0) (h2 : X.2.2.2.2 = "<init>") (dg : decode X.2.1 pc = .ok (.putfield 26, 3)) (hs : zSim X fr P (pc + 3) k) : zSim X fr P pc (xpfR 16 1 k) := sm_putR (ci := 0) (n := 1) (ty := tyX0 1) rfl (by decide) rfl rfl (zputF (C := RX0) (T := TX0) (N := 8) (ty0 := tyX0) (ty := tyX0 1) inz0 tyX0_ok nmX0 rfl (by decide) (by rw [h1]; exact wd_446) rfl rfl h2 (by rw [h1]; rfl) dg) hs
theorem pf_X0_29 [zGh] {d : Nat} {X : zM} {fr : Nat} {P : zP d} {pc : Nat} {k : zK d} (h1 : X.1 = RX0) (h2 : X.2.2.2.2 = "<init>") (dg : decode X.2.1 pc = .ok (.putfield 29, 3)) (hs : zSim X fr P (pc + 3) k) : zSim X fr P pc (xpfR 16 2 k) := sm_putR (ci := 0) (n := 2) (ty := tyX0 2) rfl (by decide) rfl rfl (zputF (C := RX0) (T := TX0) (N := 8) (ty0 := tyX0) (ty := tyX0 2) inz0 tyX0_ok nmX0 rfl (by decide) (by rw [h1]; exact wd_448) rfl rfl h2 (by rw [h1]; rfl) dg) hs
theorem pf_X0_32 [zGh] {d : Nat} {X : zM} {fr : Nat} {P : zP d} {pc : Nat} {k : zK d} (h1 : X.1 = RX0) (h2 : X.2.2.2.2 = "<init>") (dg : decode X.2.1 pc = .ok (.putfield 32, 3)) (hs : zSim X fr P (pc + 3) k) : zSim X fr P pc (xpfR 16 4 k) := sm_putR (ci := 0) (n := 4) (ty := tyX0 4) rfl (by decide) rfl rfl (zputF (C := RX0) (T := TX0) (N := 8) (ty0 := tyX0) (ty := tyX0 4) inz0 tyX0_ok nmX0 rfl (by decide) (by rw [h1]; exact wd_454) rfl rfl h2 (by rw [h1]; rfl) dg) hs
theorem pf_X0_35 [zGh] {d : Nat} {X : zM} {fr : Nat} {P : zP d} {pc : Nat} {k : zK d} (h1 : X.1 = RX0) (h2 : X.2.2.2.2 = "<init>") (dg : decode X.2.1 pc = .ok (.putfield 35, 3)) (hs : zSim X fr P (pc + 3) k) : zSim X fr P pc (xpfR 16 5 k) := sm_putR (ci := 0) (n := 5) (ty := tyX0 5) rfl (by decide) rfl rfl (zputF (C := RX0) (T := TX0) (N := 8) (ty0 := tyX0) (ty := tyX0 5) inz0 tyX0_ok nmX0 rfl (by decide) (by rw [h1]; exact wd_456) rfl rfl h2 (by rw [h1]; rfl) dg) hs
theorem pf_X0_38 [zGh] {d : Nat} {X : zM} {fr : Nat} {P : zP d} {pc : Nat} {k : zK d} (h1 : X.1 = RX0) (h2 : X.2.2.2.2 = "<init>") (dg : decode X.2.1 pc = .ok (.putfield 38, 3)) (hs : zSim X fr P (pc + 3) k) : zSim X fr P pc (xpfR 16 6 k) := sm_putR (ci := 0) (n := 6) (ty := tyX0 6) rfl (by decide) rfl rfl (zputF (C := RX0) (T := TX0) (N := 8) (ty0 := tyX0) (ty := tyX0 6) inz0 tyX0_ok nmX0 rfl (by decide) (by rw [h1]; exact wd_458) rfl rfl h2 (by rw [h1]; rfl) dg) hs
theorem pf_X0_41 [zGh] {d : Nat} {X : zM} {fr : Nat} {P : zP d} {pc : Nat} {k : zK d} (h1 : X.1 = RX0) (h2 : X.2.2.2.2 = "<init>") (dg : decode X.2.1 pc = .ok (.putfield 41, 3)) (hs : zSim X fr P (pc + 3) k) : zSim X fr P pc (xpfR 16 7 k) := sm_putR (ci := 0) (n := 7) (ty := tyX0 7) rfl (by decide) rfl rfl (zputF (C := RX0) (T := TX0) (N := 8) (ty0 := tyX0) (ty := tyX0 7) inz0 tyX0_ok nmX0 rfl (by decide) (by rw [h1]; exact wd_460) rfl rfl h2 (by rw [h1]; rfl) dg) hs
theorem gf_X0_44 [zGh] {d : Nat} {X : zM} {fr : Nat} {P : zP d} {pc : Nat} {k : zK d} (h1 : X.1 = RX0) (dg : decode X.2.1 pc = .ok (.getfield 44, 3)) (hs : zSim X fr P (pc + 3) k) : zSim X fr P pc (xgfR 23 3 k) := sm_getfieldR (ci := 7) (n := 3) (C := RX7) (T := TX7) (N := 14) rfl rfl inz7 rfl (by decide) rfl (by rw [h1]; exact wd_271) rfl dg hs
theorem gf_X0_48 [zGh] {d : Nat} {X : zM} {fr : Nat} {P : zP d} {pc : Nat} {k : zK d} (h1 : X.1 = RX0) (dg : decode X.2.1 pc = .ok (.getfield 48, 3)) (hs : zSim X fr P (pc + 3) k) : zSim X fr P pc (xgfR 20 2 k) := sm_getfieldR (ci := 4) (n := 2) (C := RX4) (T := TX4) (N := 16) rfl rfl inz4 rfl (by decide) rfl (by rw [h1]; exact wd_132) rfl dg hs
theorem cr_X0_53 {X : zM} {fr frc pc mc ms : Nat} (h1 : X.1 = RX0) (hfr : frc + 1 ≤ fr) (dg : decode X.2.1 pc = .ok (.invokestatic 53, 3)) : zRun X (RX0, cX0_slide, 6, (some .int), "slide") yX0_slide fr frc pc 3 mc ms (fun _ _ => True) := zrunS (n := 3) wd_429 wd_11 (by rw [h1]; exact wd_427) wd_428 (by decide) hfr (by decide) dg
theorem gf_X0_57 [zGh] {d : Nat} {X : zM} {fr : Nat} {P : zP d} {pc : Nat} {k : zK d} (h1 : X.1 = RX0) (dg : decode X.2.1 pc = .ok (.getfield 57, 3)) (hs : zSim X fr P (pc + 3) k) : zSim X fr P pc (xgfI 20 1 k) := sm_getfieldI (ci := 4) (n := 1) (C := RX4) (T := TX4) (N := 16) rfl rfl inz4 rfl (by decide) rfl (by rw [h1]; exact wd_129) rfl dg hs
theorem cr_X0_60 {X : zM} {fr frc pc mc ms : Nat} (h1 : X.1 = RX0) (hfr : frc + 1 ≤ fr) (dg : decode X.2.1 pc = .ok (.invokestatic 60, 3)) : zRun X (RX0, cX0_readCore, 6, none, "readCore") yX0_readCore fr frc pc 3 mc ms (fun _ _ => True) := zrunS (n := 3) wd_432 wd_11 (by rw [h1]; exact wd_430) wd_431 (by decide) hfr (by decide) dg
theorem cr_X0_64 {X : zM} {fr frc pc mc ms : Nat} (h1 : X.1 = RX0) (hfr : frc + 1 ≤ fr) (dg : decode X.2.1 pc = .ok (.invokevirtual 64, 3)) : zRun X (RX0, cX0_join, 5, none, "join") yX0_join fr frc pc 4 mc ms (fun ws As => ∃ (b : Nat) (As' : List Value) (q0 : Nat) (fs : List Value), As = .ref b :: As' ∧ ws[q0]? = some (b, .inr (0, fs))) := zrunV (n := 3) (ci := 0) rfl rfl wd_436 wd_11 (by rw [h1]; exact wd_433) wd_435 ws_27 (by decide) hfr (by decide) dg
theorem gf_X5_24 [zGh] {d : Nat} {X : zM} {fr : Nat} {P : zP d} {pc : Nat} {k : zK d} (h1 : X.1 = RX5) (dg : decode X.2.1 pc = .ok (.getfield 24, 3)) (hs : zSim X fr P (pc + 3) k) : zSim X fr P pc (xgfR 21 2 k) := sm_getfieldR (ci := 5) (n := 2) (C := RX5) (T := TX5) (N := 12) rfl rfl inz5 rfl (by decide) rfl (by rw [h1]; exact wd_490) rfl dg hs
theorem gf_X5_9 [zGh] {d : Nat} {X : zM} {fr : Nat} {P : zP d} {pc : Nat} {k : zK d} (h1 : X.1 = RX5) (dg : decode X.2.1 pc = .ok (.getfield 9, 3)) (hs : zSim X fr P (pc + 3) k) : zSim X fr P pc (xgfR 21 0 k) := sm_getfieldR (ci := 5) (n := 0) (C := RX5) (T := TX5) (N := 12) rfl rfl inz5 rfl (by decide) rfl (by rw [h1]; exact wd_487) rfl dg hs
theorem gf_X5_19 [zGh] {d : Nat} {X : zM} {fr : Nat} {P : zP d} {pc : Nat} {k : zK d} (h1 : X.1 = RX5) (dg : decode X.2.1 pc = .ok (.getfield 19, 3)) (hs : zSim X fr P (pc + 3) k) : zSim X fr P pc (xgfI 23 1 k) := sm_getfieldI (ci := 7) (n := 1) (C := RX7) (T := TX7) (N := 14) rfl rfl inz7 rfl (by decide) rfl (by rw [h1]; exact wd_265) rfl dg hs
theorem gf_X5_80 [zGh] {d : Nat} {X : zM} {fr : Nat} {P : zP d} {pc : Nat} {k : zK d} (h1 : X.1 = RX5) (dg : decode X.2.1 pc = .ok (.getfield 80, 3)) (hs : zSim X fr P (pc + 3) k) : zSim X fr P pc (xgfR 23 3 k) := sm_getfieldR (ci := 7) (n := 3) (C := RX7) (T := TX7) (N := 14) rfl rfl inz7 rfl (by decide) rfl (by rw [h1]; exact wd_272) rfl dg hs
theorem gf_X5_84 [zGh] {d : Nat} {X : zM} {fr : Nat} {P : zP d} {pc : Nat} {k : zK d} (h1 : X.1 = RX5) (dg : decode X.2.1 pc = .ok (.getfield 84, 3)) (hs : zSim X fr P (pc + 3) k) : zSim X fr P pc (xgfR 20 2 k) := sm_getfieldR (ci := 4) (n := 2) (C := RX4) (T := TX4) (N := 16) rfl rfl inz4 rfl (by decide) rfl (by rw [h1]; exact wd_134) rfl dg hs
theorem gf_X5_28 [zGh] {d : Nat} {X : zM} {fr : Nat} {P : zP d} {pc : Nat} {k : zK d} (h1 : X.1 = RX5) (dg : decode X.2.1 pc = .ok (.getfield 28, 3)) (hs : zSim X fr P (pc + 3) k) : zSim X fr P pc (xgfR 21 4 k) := sm_getfieldR (ci := 5) (n := 4) (C := RX5) (T := TX5) (N := 12) rfl rfl inz5 rfl (by decide) rfl (by rw [h1]; exact wd_494) rfl dg hs
theorem gf_X5_89 [zGh] {d : Nat} {X : zM} {fr : Nat} {P : zP d} {pc : Nat} {k : zK d} (h1 : X.1 = RX5) (dg : decode X.2.1 pc = .ok (.getfield 89, 3)) (hs : zSim X fr P (pc + 3) k) : zSim X fr P pc (xgfI 21 3 k) := sm_getfieldI (ci := 5) (n := 3) (C := RX5) (T := TX5) (N := 12) rfl rfl inz5 rfl (by decide) rfl (by rw [h1]; exact wd_492) rfl dg hs
theorem cr_X5_92 {X : zM} {fr frc pc mc ms : Nat} (h1 : X.1 = RX5) (hfr : frc + 1 ≤ fr) (dg : decode X.2.1 pc = .ok (.invokestatic 92, 3)) : zRun X (RX8, cX8_bit, 1, (some .int), "bit") yX8_bit fr frc pc 1 mc ms (fun _ _ => True) := zrunSN (n := 1) (host := "PrimeBlocks") wd_338 wd_1 (by rw [h1]; decide) wd_337 (by decide) hfr (by decide) dg
theorem pf_X5_89 [zGh] {d : Nat} {X : zM} {fr : Nat} {P : zP d} {pc : Nat} {k : zK d} (h1 : X.1 = RX5) (dg : decode X.2.1 pc = .ok (.putfield 89, 3)) (hs : zSim X fr P (pc + 3) k) : zSim X fr P pc (xpfI 21 3 k) := sm_putI (ci := 5) (n := 3) (ty := tyX5 3) rfl (by decide) rfl rfl (zput (C := RX5) (T := TX5) (N := 12) (ty0 := tyX5) (ty := tyX5 3) inz5 tyX5_ok nmX5 rfl (by decide) (by rw [h1]; exact wd_492) rfl rfl dg) hs
theorem gf_X5_15 [zGh] {d : Nat} {X : zM} {fr : Nat} {P : zP d} {pc : Nat} {k : zK d} (h1 : X.1 = RX5) (dg : decode X.2.1 pc = .ok (.getfield 15, 3)) (hs : zSim X fr P (pc + 3) k) : zSim X fr P pc (xgfI 21 1 k) := sm_getfieldI (ci := 5) (n := 1) (C := RX5) (T := TX5) (N := 12) rfl rfl inz5 rfl (by decide) rfl (by rw [h1]; exact wd_488) rfl dg hs
theorem gf_X5_96 [zGh] {d : Nat} {X : zM} {fr : Nat} {P : zP d} {pc : Nat} {k : zK d} (h1 : X.1 = RX5) (dg : decode X.2.1 pc = .ok (.getfield 96, 3)) (hs : zSim X fr P (pc + 3) k) : zSim X fr P pc (xgfI 20 5 k) := sm_getfieldI (ci := 4) (n := 5) (C := RX4) (T := TX4) (N := 16) rfl rfl inz4 rfl (by decide) rfl (by rw [h1]; exact wd_141) rfl dg hs
theorem cr_X5_135 {X : zM} {fr frc pc mc ms : Nat} (h1 : X.1 = RX5) (hfr : frc + 1 ≤ fr) (dg : decode X.2.1 pc = .ok (.invokevirtual 135, 3)) : zRun X (RX3, cX3_reduce, 9, (some .int), "reduce") yX3_reduce fr frc pc 4 mc ms (fun ws As => ∃ (b : Nat) (As' : List Value) (q0 : Nat) (fs : List Value), As = .ref b :: As' ∧ ws[q0]? = some (b, .inr (3, fs))) := zrunV (n := 3) (ci := 3) rfl rfl wd_374 wd_10 (by rw [h1]; exact wd_371) wd_372 wd_373 (by decide) hfr (by decide) dg
theorem cr_X5_132 {X : zM} {fr frc pc mc ms : Nat} (h1 : X.1 = RX5) (hfr : frc + 1 ≤ fr) (dg : decode X.2.1 pc = .ok (.invokevirtual 132, 3)) : zRun X (RX3, cX3_set, 4, none, "set") yX3_set fr frc pc 4 mc ms (fun ws As => ∃ (b : Nat) (As' : List Value) (q0 : Nat) (fs : List Value), As = .ref b :: As' ∧ ws[q0]? = some (b, .inr (3, fs))) := zrunV (n := 3) (ci := 3) rfl rfl wd_367 wd_10 (by rw [h1]; exact wd_364) wd_365 wd_366 (by decide) hfr (by decide) dg
theorem gf_X5_139 [zGh] {d : Nat} {X : zM} {fr : Nat} {P : zP d} {pc : Nat} {k : zK d} (h1 : X.1 = RX5) (dg : decode X.2.1 pc = .ok (.getfield 139, 3)) (hs : zSim X fr P (pc + 3) k) : zSim X fr P pc (xgfR 23 10 k) := sm_getfieldR (ci := 7) (n := 10) (C := RX7) (T := TX7) (N := 14) rfl rfl inz7 rfl (by decide) rfl (by rw [h1]; exact wd_289) rfl dg hs
theorem gf_X5_142 [zGh] {d : Nat} {X : zM} {fr : Nat} {P : zP d} {pc : Nat} {k : zK d} (h1 : X.1 = RX5) (dg : decode X.2.1 pc = .ok (.getfield 142, 3)) (hs : zSim X fr P (pc + 3) k) : zSim X fr P pc (xgfR 23 13 k) := sm_getfieldR (ci := 7) (n := 13) (C := RX7) (T := TX7) (N := 14) rfl rfl inz7 rfl (by decide) rfl (by rw [h1]; exact wd_297) rfl dg hs
theorem cr_X5_145 {X : zM} {fr frc pc mc ms : Nat} (h1 : X.1 = RX5) (hfr : frc + 1 ≤ fr) (dg : decode X.2.1 pc = .ok (.invokevirtual 145, 3)) : zRun X (RX4, cX4_makeMovedForms, 6, none, "makeMovedForms") yX4_makeMovedForms fr frc pc 4 mc ms (fun ws As => ∃ (b : Nat) (As' : List Value) (q0 : Nat) (fs : List Value), As = .ref b :: As' ∧ ws[q0]? = some (b, .inr (4, fs))) := zrunV (n := 3) (ci := 4) rfl rfl wd_255 wd_4 (by rw [h1]; exact wd_395) wd_253 wd_254 (by decide) hfr (by decide) dg
theorem gf_X5_35 [zGh] {d : Nat} {X : zM} {fr : Nat} {P : zP d} {pc : Nat} {k : zK d} (h1 : X.1 = RX5) (dg : decode X.2.1 pc = .ok (.getfield 35, 3)) (hs : zSim X fr P (pc + 3) k) : zSim X fr P pc (xgfR 21 5 k) := sm_getfieldR (ci := 5) (n := 5) (C := RX5) (T := TX5) (N := 12) rfl rfl inz5 rfl (by decide) rfl (by rw [h1]; exact wd_496) rfl dg hs
theorem gf_X5_110 [zGh] {d : Nat} {X : zM} {fr : Nat} {P : zP d} {pc : Nat} {k : zK d} (h1 : X.1 = RX5) (dg : decode X.2.1 pc = .ok (.getfield 110, 3)) (hs : zSim X fr P (pc + 3) k) : zSim X fr P pc (xgfR 20 7 k) := sm_getfieldR (ci := 4) (n := 7) (C := RX4) (T := TX4) (N := 16) rfl rfl inz4 rfl (by decide) rfl (by rw [h1]; exact wd_146) rfl dg hs
theorem cr_X5_113 {X : zM} {fr frc pc mc ms : Nat} (h1 : X.1 = RX5) (hfr : frc + 1 ≤ fr) (dg : decode X.2.1 pc = .ok (.invokestatic 113, 3)) : zRun X (RX5, cX5_rankOfDifference, 6, (some .int), "rankOfDifference") yX5_rankOfDifference fr frc pc 4 mc ms (fun _ _ => True) := zrunS (n := 4) wd_363 wd_9 (by rw [h1]; exact wd_361) wd_362 (by decide) hfr (by decide) dg
theorem gf_X5_162 [zGh] {d : Nat} {X : zM} {fr : Nat} {P : zP d} {pc : Nat} {k : zK d} (h1 : X.1 = RX5) (dg : decode X.2.1 pc = .ok (.getfield 162, 3)) (hs : zSim X fr P (pc + 3) k) : zSim X fr P pc (xgfR 23 9 k) := sm_getfieldR (ci := 7) (n := 9) (C := RX7) (T := TX7) (N := 14) rfl rfl inz7 rfl (by decide) rfl (by rw [h1]; exact wd_287) rfl dg hs
theorem gf_X5_149 [zGh] {d : Nat} {X : zM} {fr : Nat} {P : zP d} {pc : Nat} {k : zK d} (h1 : X.1 = RX5) (dg : decode X.2.1 pc = .ok (.getfield 149, 3)) (hs : zSim X fr P (pc + 3) k) : zSim X fr P pc (xgfR 23 6 k) := sm_getfieldR (ci := 7) (n := 6) (C := RX7) (T := TX7) (N := 14) rfl rfl inz7 rfl (by decide) rfl (by rw [h1]; exact wd_279) rfl dg hs
theorem cr_X5_155 {X : zM} {fr frc pc mc ms : Nat} (h1 : X.1 = RX5) (hfr : frc + 1 ≤ fr) (dg : decode X.2.1 pc = .ok (.invokevirtual 155, 3)) : zRun X (RX5, cX5_dimensionsOfOrder, 6, (some .int), "dimensionsOfOrder") yX5_dimensionsOfOrder fr frc pc 4 mc ms (fun ws As => ∃ (b : Nat) (As' : List Value) (q0 : Nat) (fs : List Value), As = .ref b :: As' ∧ ws[q0]? = some (b, .inr (5, fs))) := zrunV (n := 3) (ci := 5) rfl rfl wd_405 wd_9 (by rw [h1]; exact wd_402) wd_404 ws_23 (by decide) hfr (by decide) dg
theorem cr_X5_107 {X : zM} {fr frc pc mc ms : Nat} (h1 : X.1 = RX5) (hfr : frc + 1 ≤ fr) (dg : decode X.2.1 pc = .ok (.invokespecial 107, 3)) : zRun X (RX3, cX3_init, 4, none, "<init>") yX3_init fr frc pc 4 mc ms (fun ws As => ∃ (b : Nat) (As' : List Value) (q0 : Nat) (fs : List Value), As = .ref b :: As' ∧ ws[q0]? = some (b, .inr (3, fs))) := zrunI (n := 3) (ci := 3) wd_349 rfl wd_10 (by rw [h1]; exact wd_347) wd_348 rfl (by decide) hfr (by decide) dg
theorem cr_X5_117 {X : zM} {fr frc pc mc ms : Nat} (h1 : X.1 = RX5) (hfr : frc + 1 ≤ fr) (dg : decode X.2.1 pc = .ok (.invokevirtual 117, 3)) : zRun X (RX5, cX5_isRegular, 2, (some .boolean), "isRegular") yX5_isRegular fr frc pc 2 mc ms (fun ws As => ∃ (b : Nat) (As' : List Value) (q0 : Nat) (fs : List Value), As = .ref b :: As' ∧ ws[q0]? = some (b, .inr (5, fs))) := zrunV (n := 1) (ci := 5) rfl rfl wd_390 wd_9 (by rw [h1]; exact wd_387) wd_388 wd_389 (by decide) hfr (by decide) dg
theorem gf_X5_40 [zGh] {d : Nat} {X : zM} {fr : Nat} {P : zP d} {pc : Nat} {k : zK d} (h1 : X.1 = RX5) (dg : decode X.2.1 pc = .ok (.getfield 40, 3)) (hs : zSim X fr P (pc + 3) k) : zSim X fr P pc (xgfR 21 6 k) := sm_getfieldR (ci := 5) (n := 6) (C := RX5) (T := TX5) (N := 12) rfl rfl inz5 rfl (by decide) rfl (by rw [h1]; exact wd_498) rfl dg hs
theorem gf_X5_129 [zGh] {d : Nat} {X : zM} {fr : Nat} {P : zP d} {pc : Nat} {k : zK d} (h1 : X.1 = RX5) (dg : decode X.2.1 pc = .ok (.getfield 129, 3)) (hs : zSim X fr P (pc + 3) k) : zSim X fr P pc (xgfR 23 12 k) := sm_getfieldR (ci := 7) (n := 12) (C := RX7) (T := TX7) (N := 14) rfl rfl inz7 rfl (by decide) rfl (by rw [h1]; exact wd_293) rfl dg hs
theorem cr_X5_125 {X : zM} {fr frc pc mc ms : Nat} (h1 : X.1 = RX5) (hfr : frc + 1 ≤ fr) (dg : decode X.2.1 pc = .ok (.invokevirtual 125, 3)) : zRun X (RX5, cX5_sumOfRoots, 6, (some .int), "sumOfRoots") yX5_sumOfRoots fr frc pc 3 mc ms (fun ws As => ∃ (b : Nat) (As' : List Value) (q0 : Nat) (fs : List Value), As = .ref b :: As' ∧ ws[q0]? = some (b, .inr (5, fs))) := zrunV (n := 2) (ci := 5) rfl rfl wd_399 wd_9 (by rw [h1]; exact wd_396) wd_398 ws_22 (by decide) hfr (by decide) dg
theorem cr_X5_121 {X : zM} {fr frc pc mc ms : Nat} (h1 : X.1 = RX5) (hfr : frc + 1 ≤ fr) (dg : decode X.2.1 pc = .ok (.invokevirtual 121, 3)) : zRun X (RX5, cX5_makeFixed, 7, none, "makeFixed") yX5_makeFixed fr frc pc 5 mc ms (fun ws As => ∃ (b : Nat) (As' : List Value) (q0 : Nat) (fs : List Value), As = .ref b :: As' ∧ ws[q0]? = some (b, .inr (5, fs))) := zrunV (n := 4) (ci := 5) rfl rfl wd_394 wd_9 (by rw [h1]; exact wd_391) wd_393 ws_21 (by decide) hfr (by decide) dg
theorem gf_X5_46 [zGh] {d : Nat} {X : zM} {fr : Nat} {P : zP d} {pc : Nat} {k : zK d} (h1 : X.1 = RX5) (dg : decode X.2.1 pc = .ok (.getfield 46, 3)) (hs : zSim X fr P (pc + 3) k) : zSim X fr P pc (xgfR 21 7 k) := sm_getfieldR (ci := 5) (n := 7) (C := RX5) (T := TX5) (N := 12) rfl rfl inz5 rfl (by decide) rfl (by rw [h1]; exact wd_501) rfl dg hs
theorem gf_X5_165 [zGh] {d : Nat} {X : zM} {fr : Nat} {P : zP d} {pc : Nat} {k : zK d} (h1 : X.1 = RX5) (dg : decode X.2.1 pc = .ok (.getfield 165, 3)) (hs : zSim X fr P (pc + 3) k) : zSim X fr P pc (xgfR 19 1 k) := sm_getfieldR (ci := 3) (n := 1) (C := RX3) (T := TX3) (N := 2) rfl rfl inz3 rfl (by decide) rfl (by rw [h1]; exact wd_354) rfl dg hs
theorem gf_X5_52 [zGh] {d : Nat} {X : zM} {fr : Nat} {P : zP d} {pc : Nat} {k : zK d} (h1 : X.1 = RX5) (dg : decode X.2.1 pc = .ok (.getfield 52, 3)) (hs : zSim X fr P (pc + 3) k) : zSim X fr P pc (xgfR 21 8 k) := sm_getfieldR (ci := 5) (n := 8) (C := RX5) (T := TX5) (N := 12) rfl rfl inz5 rfl (by decide) rfl (by rw [h1]; exact wd_503) rfl dg hs
theorem gf_X5_55 [zGh] {d : Nat} {X : zM} {fr : Nat} {P : zP d} {pc : Nat} {k : zK d} (h1 : X.1 = RX5) (dg : decode X.2.1 pc = .ok (.getfield 55, 3)) (hs : zSim X fr P (pc + 3) k) : zSim X fr P pc (xgfR 21 9 k) := sm_getfieldR (ci := 5) (n := 9) (C := RX5) (T := TX5) (N := 12) rfl rfl inz5 rfl (by decide) rfl (by rw [h1]; exact wd_505) rfl dg hs
theorem gf_X5_69 [zGh] {d : Nat} {X : zM} {fr : Nat} {P : zP d} {pc : Nat} {k : zK d} (h1 : X.1 = RX5) (dg : decode X.2.1 pc = .ok (.getfield 69, 3)) (hs : zSim X fr P (pc + 3) k) : zSim X fr P pc (xgfR 21 10 k) := sm_getfieldR (ci := 5) (n := 10) (C := RX5) (T := TX5) (N := 12) rfl rfl inz5 rfl (by decide) rfl (by rw [h1]; exact wd_508) rfl dg hs
theorem gf_X5_73 [zGh] {d : Nat} {X : zM} {fr : Nat} {P : zP d} {pc : Nat} {k : zK d} (h1 : X.1 = RX5) (dg : decode X.2.1 pc = .ok (.getfield 73, 3)) (hs : zSim X fr P (pc + 3) k) : zSim X fr P pc (xgfI 16 3 k) := sm_getfieldI (ci := 0) (n := 3) (C := RX0) (T := TX0) (N := 8) rfl rfl inz0 rfl (by decide) rfl (by rw [h1]; exact wd_451) rfl dg hs
theorem gf_X5_74 [zGh] {d : Nat} {X : zM} {fr : Nat} {P : zP d} {pc : Nat} {k : zK d} (h1 : X.1 = RX5) (dg : decode X.2.1 pc = .ok (.getfield 74, 3)) (hs : zSim X fr P (pc + 3) k) : zSim X fr P pc (xgfR 21 11 k) := sm_getfieldR (ci := 5) (n := 11) (C := RX5) (T := TX5) (N := 12) rfl rfl inz5 rfl (by decide) rfl (by rw [h1]; exact wd_510) rfl dg hs
theorem cr_X5_173 {X : zM} {fr frc pc mc ms : Nat} (h1 : X.1 = RX5) (hfr : frc + 1 ≤ fr) (dg : decode X.2.1 pc = .ok (.invokestatic 173, 3)) : zRun X (RX5, cX5_determinant, 9, (some .long), "determinant") yX5_determinant fr frc pc 2 mc ms (fun _ _ => True) := zrunS (n := 2) wd_486 wd_9 (by rw [h1]; exact wd_484) wd_485 (by decide) hfr (by decide) dg
theorem gf_X5_170 [zGh] {d : Nat} {X : zM} {fr : Nat} {P : zP d} {pc : Nat} {k : zK d} (h1 : X.1 = RX5) (dg : decode X.2.1 pc = .ok (.getfield 170, 3)) (hs : zSim X fr P (pc + 3) k) : zSim X fr P pc (xgfR 16 2 k) := sm_getfieldR (ci := 0) (n := 2) (C := RX0) (T := TX0) (N := 8) rfl rfl inz0 rfl (by decide) rfl (by rw [h1]; exact wd_450) rfl dg hs
theorem pf_X5_9 [zGh] {d : Nat} {X : zM} {fr : Nat} {P : zP d} {pc : Nat} {k : zK d} (h1 : X.1 = RX5) (h2 : X.2.2.2.2 = "<init>") (dg : decode X.2.1 pc = .ok (.putfield 9, 3)) (hs : zSim X fr P (pc + 3) k) : zSim X fr P pc (xpfR 21 0 k) := sm_putR (ci := 5) (n := 0) (ty := tyX5 0) rfl (by decide) rfl rfl (zputF (C := RX5) (T := TX5) (N := 12) (ty0 := tyX5) (ty := tyX5 0) inz5 tyX5_ok nmX5 rfl (by decide) (by rw [h1]; exact wd_487) rfl rfl h2 (by rw [h1]; rfl) dg) hs
theorem pf_X5_15 [zGh] {d : Nat} {X : zM} {fr : Nat} {P : zP d} {pc : Nat} {k : zK d} (h1 : X.1 = RX5) (h2 : X.2.2.2.2 = "<init>") (dg : decode X.2.1 pc = .ok (.putfield 15, 3)) (hs : zSim X fr P (pc + 3) k) : zSim X fr P pc (xpfI 21 1 k) := sm_putI (ci := 5) (n := 1) (ty := tyX5 1) rfl (by decide) rfl rfl (zputF (C := RX5) (T := TX5) (N := 12) (ty0 := tyX5) (ty := tyX5 1) inz5 tyX5_ok nmX5 rfl (by decide) (by rw [h1]; exact wd_488) rfl rfl h2 (by rw [h1]; rfl) dg) hs
theorem pf_X5_24 [zGh] {d : Nat} {X : zM} {fr : Nat} {P : zP d} {pc : Nat} {k : zK d} (h1 : X.1 = RX5) (h2 : X.2.2.2.2 = "<init>") (dg : decode X.2.1 pc = .ok (.putfield 24, 3)) (hs : zSim X fr P (pc + 3) k) : zSim X fr P pc (xpfR 21 2 k) := sm_putR (ci := 5) (n := 2) (ty := tyX5 2) rfl (by decide) rfl rfl (zputF (C := RX5) (T := TX5) (N := 12) (ty0 := tyX5) (ty := tyX5 2) inz5 tyX5_ok nmX5 rfl (by decide) (by rw [h1]; exact wd_490) rfl rfl h2 (by rw [h1]; rfl) dg) hs
theorem pf_X5_28 [zGh] {d : Nat} {X : zM} {fr : Nat} {P : zP d} {pc : Nat} {k : zK d} (h1 : X.1 = RX5) (h2 : X.2.2.2.2 = "<init>") (dg : decode X.2.1 pc = .ok (.putfield 28, 3)) (hs : zSim X fr P (pc + 3) k) : zSim X fr P pc (xpfR 21 4 k) := sm_putR (ci := 5) (n := 4) (ty := tyX5 4) rfl (by decide) rfl rfl (zputF (C := RX5) (T := TX5) (N := 12) (ty0 := tyX5) (ty := tyX5 4) inz5 tyX5_ok nmX5 rfl (by decide) (by rw [h1]; exact wd_494) rfl rfl h2 (by rw [h1]; rfl) dg) hs
theorem cr_X5_32 {X : zM} {fr frc pc mc ms : Nat} (h1 : X.1 = RX5) (hfr : frc + 1 ≤ fr) (dg : decode X.2.1 pc = .ok (.invokevirtual 32, 3)) : zRun X (RX5, cX5_markRegular, 7, none, "markRegular") yX5_markRegular fr frc pc 1 mc ms (fun ws As => ∃ (b : Nat) (As' : List Value) (q0 : Nat) (fs : List Value), As = .ref b :: As' ∧ ws[q0]? = some (b, .inr (5, fs))) := zrunV (n := 0) (ci := 5) rfl rfl wd_335 wd_9 (by rw [h1]; exact wd_332) wd_334 ws_16 (by decide) hfr (by decide) dg
theorem pf_X5_35 [zGh] {d : Nat} {X : zM} {fr : Nat} {P : zP d} {pc : Nat} {k : zK d} (h1 : X.1 = RX5) (h2 : X.2.2.2.2 = "<init>") (dg : decode X.2.1 pc = .ok (.putfield 35, 3)) (hs : zSim X fr P (pc + 3) k) : zSim X fr P pc (xpfR 21 5 k) := sm_putR (ci := 5) (n := 5) (ty := tyX5 5) rfl (by decide) rfl rfl (zputF (C := RX5) (T := TX5) (N := 12) (ty0 := tyX5) (ty := tyX5 5) inz5 tyX5_ok nmX5 rfl (by decide) (by rw [h1]; exact wd_496) rfl rfl h2 (by rw [h1]; rfl) dg) hs
theorem pf_X5_40 [zGh] {d : Nat} {X : zM} {fr : Nat} {P : zP d} {pc : Nat} {k : zK d} (h1 : X.1 = RX5) (h2 : X.2.2.2.2 = "<init>") (dg : decode X.2.1 pc = .ok (.putfield 40, 3)) (hs : zSim X fr P (pc + 3) k) : zSim X fr P pc (xpfR 21 6 k) := sm_putR (ci := 5) (n := 6) (ty := tyX5 6) rfl (by decide) rfl rfl (zputF (C := RX5) (T := TX5) (N := 12) (ty0 := tyX5) (ty := tyX5 6) inz5 tyX5_ok nmX5 rfl (by decide) (by rw [h1]; exact wd_498) rfl rfl h2 (by rw [h1]; rfl) dg) hs
theorem cr_X5_43 {X : zM} {fr frc pc mc ms : Nat} (h1 : X.1 = RX5) (hfr : frc + 1 ≤ fr) (dg : decode X.2.1 pc = .ok (.invokevirtual 43, 3)) : zRun X (RX5, cX5_makeModulars, 8, none, "makeModulars") yX5_makeModulars fr frc pc 1 mc ms (fun ws As => ∃ (b : Nat) (As' : List Value) (q0 : Nat) (fs : List Value), As = .ref b :: As' ∧ ws[q0]? = some (b, .inr (5, fs))) := zrunV (n := 0) (ci := 5) rfl rfl wd_343 wd_9 (by rw [h1]; exact wd_340) wd_342 ws_17 (by decide) hfr (by decide) dg
theorem pf_X5_46 [zGh] {d : Nat} {X : zM} {fr : Nat} {P : zP d} {pc : Nat} {k : zK d} (h1 : X.1 = RX5) (h2 : X.2.2.2.2 = "<init>") (dg : decode X.2.1 pc = .ok (.putfield 46, 3)) (hs : zSim X fr P (pc + 3) k) : zSim X fr P pc (xpfR 21 7 k) := sm_putR (ci := 5) (n := 7) (ty := tyX5 7) rfl (by decide) rfl rfl (zputF (C := RX5) (T := TX5) (N := 12) (ty0 := tyX5) (ty := tyX5 7) inz5 tyX5_ok nmX5 rfl (by decide) (by rw [h1]; exact wd_501) rfl rfl h2 (by rw [h1]; rfl) dg) hs
theorem cr_X5_49 {X : zM} {fr frc pc mc ms : Nat} (h1 : X.1 = RX5) (hfr : frc + 1 ≤ fr) (dg : decode X.2.1 pc = .ok (.invokevirtual 49, 3)) : zRun X (RX5, cX5_makeDecompositions, 6, none, "makeDecompositions") yX5_makeDecompositions fr frc pc 1 mc ms (fun ws As => ∃ (b : Nat) (As' : List Value) (q0 : Nat) (fs : List Value), As = .ref b :: As' ∧ ws[q0]? = some (b, .inr (5, fs))) := zrunV (n := 0) (ci := 5) rfl rfl wd_411 wd_9 (by rw [h1]; exact wd_408) wd_410 ws_24 (by decide) hfr (by decide) dg
theorem pf_X5_52 [zGh] {d : Nat} {X : zM} {fr : Nat} {P : zP d} {pc : Nat} {k : zK d} (h1 : X.1 = RX5) (h2 : X.2.2.2.2 = "<init>") (dg : decode X.2.1 pc = .ok (.putfield 52, 3)) (hs : zSim X fr P (pc + 3) k) : zSim X fr P pc (xpfR 21 8 k) := sm_putR (ci := 5) (n := 8) (ty := tyX5 8) rfl (by decide) rfl rfl (zputF (C := RX5) (T := TX5) (N := 12) (ty0 := tyX5) (ty := tyX5 8) inz5 tyX5_ok nmX5 rfl (by decide) (by rw [h1]; exact wd_503) rfl rfl h2 (by rw [h1]; rfl) dg) hs
theorem pf_X5_55 [zGh] {d : Nat} {X : zM} {fr : Nat} {P : zP d} {pc : Nat} {k : zK d} (h1 : X.1 = RX5) (h2 : X.2.2.2.2 = "<init>") (dg : decode X.2.1 pc = .ok (.putfield 55, 3)) (hs : zSim X fr P (pc + 3) k) : zSim X fr P pc (xpfR 21 9 k) := sm_putR (ci := 5) (n := 9) (ty := tyX5 9) rfl (by decide) rfl rfl (zputF (C := RX5) (T := TX5) (N := 12) (ty0 := tyX5) (ty := tyX5 9) inz5 tyX5_ok nmX5 rfl (by decide) (by rw [h1]; exact wd_505) rfl rfl h2 (by rw [h1]; rfl) dg) hs
theorem cr_X5_58 {X : zM} {fr frc pc mc ms : Nat} (h1 : X.1 = RX5) (hfr : frc + 1 ≤ fr) (dg : decode X.2.1 pc = .ok (.invokevirtual 58, 3)) : zRun X (RX5, cX5_makeCartans, 4, none, "makeCartans") yX5_makeCartans fr frc pc 1 mc ms (fun ws As => ∃ (b : Nat) (As' : List Value) (q0 : Nat) (fs : List Value), As = .ref b :: As' ∧ ws[q0]? = some (b, .inr (5, fs))) := zrunV (n := 0) (ci := 5) rfl rfl wd_415 wd_9 (by rw [h1]; exact wd_412) wd_414 ws_25 (by decide) hfr (by decide) dg
theorem cr_X5_61 {X : zM} {fr frc pc mc ms : Nat} (h1 : X.1 = RX5) (hfr : frc + 1 ≤ fr) (dg : decode X.2.1 pc = .ok (.invokevirtual 61, 3)) : zRun X (RX5, cX5_makeProjectives, 4, none, "makeProjectives") yX5_makeProjectives fr frc pc 1 mc ms (fun ws As => ∃ (b : Nat) (As' : List Value) (q0 : Nat) (fs : List Value), As = .ref b :: As' ∧ ws[q0]? = some (b, .inr (5, fs))) := zrunV (n := 0) (ci := 5) rfl rfl wd_419 wd_9 (by rw [h1]; exact wd_416) wd_418 ws_26 (by decide) hfr (by decide) dg
theorem cr_X5_66 {X : zM} {fr frc pc mc ms : Nat} (h1 : X.1 = RX5) (hfr : frc + 1 ≤ fr) (dg : decode X.2.1 pc = .ok (.invokespecial 66, 3)) : zRun X (RX0, cX0_init, 7, none, "<init>") yX0_init fr frc pc 4 mc ms (fun ws As => ∃ (b : Nat) (As' : List Value) (q0 : Nat) (fs : List Value), As = .ref b :: As' ∧ ws[q0]? = some (b, .inr (0, fs))) := zrunI (n := 3) (ci := 0) wd_424 rfl wd_11 (by rw [h1]; exact wd_422) wd_423 rfl (by decide) hfr (by decide) dg
theorem pf_X5_69 [zGh] {d : Nat} {X : zM} {fr : Nat} {P : zP d} {pc : Nat} {k : zK d} (h1 : X.1 = RX5) (h2 : X.2.2.2.2 = "<init>") (dg : decode X.2.1 pc = .ok (.putfield 69, 3)) (hs : zSim X fr P (pc + 3) k) : zSim X fr P pc (xpfR 21 10 k) := sm_putR (ci := 5) (n := 10) (ty := tyX5 10) rfl (by decide) rfl rfl (zputF (C := RX5) (T := TX5) (N := 12) (ty0 := tyX5) (ty := tyX5 10) inz5 tyX5_ok nmX5 rfl (by decide) (by rw [h1]; exact wd_508) rfl rfl h2 (by rw [h1]; rfl) dg) hs
theorem pf_X5_74 [zGh] {d : Nat} {X : zM} {fr : Nat} {P : zP d} {pc : Nat} {k : zK d} (h1 : X.1 = RX5) (h2 : X.2.2.2.2 = "<init>") (dg : decode X.2.1 pc = .ok (.putfield 74, 3)) (hs : zSim X fr P (pc + 3) k) : zSim X fr P pc (xpfR 21 11 k) := sm_putR (ci := 5) (n := 11) (ty := tyX5 11) rfl (by decide) rfl rfl (zputF (C := RX5) (T := TX5) (N := 12) (ty0 := tyX5) (ty := tyX5 11) inz5 tyX5_ok nmX5 rfl (by decide) (by rw [h1]; exact wd_510) rfl rfl h2 (by rw [h1]; rfl) dg) hs
theorem cr_X5_77 {X : zM} {fr frc pc mc ms : Nat} (h1 : X.1 = RX5) (hfr : frc + 1 ≤ fr) (dg : decode X.2.1 pc = .ok (.invokevirtual 77, 3)) : zRun X (RX5, cX5_makeDeterminants, 7, none, "makeDeterminants") yX5_makeDeterminants fr frc pc 1 mc ms (fun ws As => ∃ (b : Nat) (As' : List Value) (q0 : Nat) (fs : List Value), As = .ref b :: As' ∧ ws[q0]? = some (b, .inr (5, fs))) := zrunV (n := 0) (ci := 5) rfl rfl wd_482 wd_9 (by rw [h1]; exact wd_479) wd_481 ws_28 (by decide) hfr (by decide) dg
theorem cr_X2_11 {X : zM} {fr frc pc mc ms : Nat} (h1 : X.1 = RX2) (hfr : frc + 1 ≤ fr) (dg : decode X.2.1 pc = .ok (.invokespecial 11, 3)) : zRun X (RX1, cX1_init, 1, none, "<init>") yX1_init fr frc pc 1 mc ms (fun ws As => ∃ (b : Nat) (As' : List Value) (q0 : Nat) (fs : List Value), As = .ref b :: As' ∧ ws[q0]? = some (b, .inr (1, fs))) := zrunIN (n := 0) (ci := 1) (host := "PrimeBlocks") wd_550 rfl wd_13 (by rw [h1]; decide) wd_549 rfl (by decide) hfr (by decide) dg
theorem pf_X2_12 [zGh] {d : Nat} {X : zM} {fr : Nat} {P : zP d} {pc : Nat} {k : zK d} (h1 : X.1 = RX2) (h2 : X.2.2.2.2 = "<init>") (dg : decode X.2.1 pc = .ok (.putfield 12, 3)) (hs : zSim X fr P (pc + 3) k) : zSim X fr P pc (xpfR 18 0 k) := sm_putR (ci := 2) (n := 0) (ty := tyX2 0) rfl (by decide) rfl rfl (zputF (C := RX2) (T := TX2) (N := 15) (ty0 := tyX2) (ty := tyX2 0) inz2 tyX2_ok nmX2 rfl (by decide) (by rw [h1]; exact wd_570) rfl rfl h2 (by rw [h1]; rfl) dg) hs
theorem pf_X2_20 [zGh] {d : Nat} {X : zM} {fr : Nat} {P : zP d} {pc : Nat} {k : zK d} (h1 : X.1 = RX2) (h2 : X.2.2.2.2 = "<init>") (dg : decode X.2.1 pc = .ok (.putfield 20, 3)) (hs : zSim X fr P (pc + 3) k) : zSim X fr P pc (xpfR 18 1 k) := sm_putR (ci := 2) (n := 1) (ty := tyX2 1) rfl (by decide) rfl rfl (zputF (C := RX2) (T := TX2) (N := 15) (ty0 := tyX2) (ty := tyX2 1) inz2 tyX2_ok nmX2 rfl (by decide) (by rw [h1]; exact wd_572) rfl rfl h2 (by rw [h1]; rfl) dg) hs
theorem pf_X2_23 [zGh] {d : Nat} {X : zM} {fr : Nat} {P : zP d} {pc : Nat} {k : zK d} (h1 : X.1 = RX2) (h2 : X.2.2.2.2 = "<init>") (dg : decode X.2.1 pc = .ok (.putfield 23, 3)) (hs : zSim X fr P (pc + 3) k) : zSim X fr P pc (xpfR 18 2 k) := sm_putR (ci := 2) (n := 2) (ty := tyX2 2) rfl (by decide) rfl rfl (zputF (C := RX2) (T := TX2) (N := 15) (ty0 := tyX2) (ty := tyX2 2) inz2 tyX2_ok nmX2 rfl (by decide) (by rw [h1]; exact wd_574) rfl rfl h2 (by rw [h1]; rfl) dg) hs
theorem pf_X2_26 [zGh] {d : Nat} {X : zM} {fr : Nat} {P : zP d} {pc : Nat} {k : zK d} (h1 : X.1 = RX2) (h2 : X.2.2.2.2 = "<init>") (dg : decode X.2.1 pc = .ok (.putfield 26, 3)) (hs : zSim X fr P (pc + 3) k) : zSim X fr P pc (xpfR 18 3 k) := sm_putR (ci := 2) (n := 3) (ty := tyX2 3) rfl (by decide) rfl rfl (zputF (C := RX2) (T := TX2) (N := 15) (ty0 := tyX2) (ty := tyX2 3) inz2 tyX2_ok nmX2 rfl (by decide) (by rw [h1]; exact wd_575) rfl rfl h2 (by rw [h1]; rfl) dg) hs
theorem pf_X2_29 [zGh] {d : Nat} {X : zM} {fr : Nat} {P : zP d} {pc : Nat} {k : zK d} (h1 : X.1 = RX2) (h2 : X.2.2.2.2 = "<init>") (dg : decode X.2.1 pc = .ok (.putfield 29, 3)) (hs : zSim X fr P (pc + 3) k) : zSim X fr P pc (xpfR 18 4 k) := sm_putR (ci := 2) (n := 4) (ty := tyX2 4) rfl (by decide) rfl rfl (zputF (C := RX2) (T := TX2) (N := 15) (ty0 := tyX2) (ty := tyX2 4) inz2 tyX2_ok nmX2 rfl (by decide) (by rw [h1]; exact wd_576) rfl rfl h2 (by rw [h1]; rfl) dg) hs
theorem pf_X2_33 [zGh] {d : Nat} {X : zM} {fr : Nat} {P : zP d} {pc : Nat} {k : zK d} (h1 : X.1 = RX2) (h2 : X.2.2.2.2 = "<init>") (dg : decode X.2.1 pc = .ok (.putfield 33, 3)) (hs : zSim X fr P (pc + 3) k) : zSim X fr P pc (xpfR 18 5 k) := sm_putR (ci := 2) (n := 5) (ty := tyX2 5) rfl (by decide) rfl rfl (zputF (C := RX2) (T := TX2) (N := 15) (ty0 := tyX2) (ty := tyX2 5) inz2 tyX2_ok nmX2 rfl (by decide) (by rw [h1]; exact wd_577) rfl rfl h2 (by rw [h1]; rfl) dg) hs
theorem pf_X2_36 [zGh] {d : Nat} {X : zM} {fr : Nat} {P : zP d} {pc : Nat} {k : zK d} (h1 : X.1 = RX2) (h2 : X.2.2.2.2 = "<init>") (dg : decode X.2.1 pc = .ok (.putfield 36, 3)) (hs : zSim X fr P (pc + 3) k) : zSim X fr P pc (xpfR 18 6 k) := sm_putR (ci := 2) (n := 6) (ty := tyX2 6) rfl (by decide) rfl rfl (zputF (C := RX2) (T := TX2) (N := 15) (ty0 := tyX2) (ty := tyX2 6) inz2 tyX2_ok nmX2 rfl (by decide) (by rw [h1]; exact wd_578) rfl rfl h2 (by rw [h1]; rfl) dg) hs
theorem pf_X2_39 [zGh] {d : Nat} {X : zM} {fr : Nat} {P : zP d} {pc : Nat} {k : zK d} (h1 : X.1 = RX2) (h2 : X.2.2.2.2 = "<init>") (dg : decode X.2.1 pc = .ok (.putfield 39, 3)) (hs : zSim X fr P (pc + 3) k) : zSim X fr P pc (xpfR 18 7 k) := sm_putR (ci := 2) (n := 7) (ty := tyX2 7) rfl (by decide) rfl rfl (zputF (C := RX2) (T := TX2) (N := 15) (ty0 := tyX2) (ty := tyX2 7) inz2 tyX2_ok nmX2 rfl (by decide) (by rw [h1]; exact wd_579) rfl rfl h2 (by rw [h1]; rfl) dg) hs
theorem pf_X2_42 [zGh] {d : Nat} {X : zM} {fr : Nat} {P : zP d} {pc : Nat} {k : zK d} (h1 : X.1 = RX2) (h2 : X.2.2.2.2 = "<init>") (dg : decode X.2.1 pc = .ok (.putfield 42, 3)) (hs : zSim X fr P (pc + 3) k) : zSim X fr P pc (xpfR 18 10 k) := sm_putR (ci := 2) (n := 10) (ty := tyX2 10) rfl (by decide) rfl rfl (zputF (C := RX2) (T := TX2) (N := 15) (ty0 := tyX2) (ty := tyX2 10) inz2 tyX2_ok nmX2 rfl (by decide) (by rw [h1]; exact wd_582) rfl rfl h2 (by rw [h1]; rfl) dg) hs
theorem pf_X2_46 [zGh] {d : Nat} {X : zM} {fr : Nat} {P : zP d} {pc : Nat} {k : zK d} (h1 : X.1 = RX2) (h2 : X.2.2.2.2 = "<init>") (dg : decode X.2.1 pc = .ok (.putfield 46, 3)) (hs : zSim X fr P (pc + 3) k) : zSim X fr P pc (xpfR 18 11 k) := sm_putR (ci := 2) (n := 11) (ty := tyX2 11) rfl (by decide) rfl rfl (zputF (C := RX2) (T := TX2) (N := 15) (ty0 := tyX2) (ty := tyX2 11) inz2 tyX2_ok nmX2 rfl (by decide) (by rw [h1]; exact wd_583) rfl rfl h2 (by rw [h1]; rfl) dg) hs
theorem pf_X2_49 [zGh] {d : Nat} {X : zM} {fr : Nat} {P : zP d} {pc : Nat} {k : zK d} (h1 : X.1 = RX2) (dg : decode X.2.1 pc = .ok (.putfield 49, 3)) (hs : zSim X fr P (pc + 3) k) : zSim X fr P pc (xpfR 18 12 k) := sm_putR (ci := 2) (n := 12) (ty := tyX2 12) rfl (by decide) rfl rfl (zput (C := RX2) (T := TX2) (N := 15) (ty0 := tyX2) (ty := tyX2 12) inz2 tyX2_ok nmX2 rfl (by decide) (by rw [h1]; exact wd_584) rfl rfl dg) hs
theorem pf_X2_53 [zGh] {d : Nat} {X : zM} {fr : Nat} {P : zP d} {pc : Nat} {k : zK d} (h1 : X.1 = RX2) (dg : decode X.2.1 pc = .ok (.putfield 53, 3)) (hs : zSim X fr P (pc + 3) k) : zSim X fr P pc (xpfR 18 13 k) := sm_putR (ci := 2) (n := 13) (ty := tyX2 13) rfl (by decide) rfl rfl (zput (C := RX2) (T := TX2) (N := 15) (ty0 := tyX2) (ty := tyX2 13) inz2 tyX2_ok nmX2 rfl (by decide) (by rw [h1]; exact wd_585) rfl rfl dg) hs
theorem gf_X2_60 [zGh] {d : Nat} {X : zM} {fr : Nat} {P : zP d} {pc : Nat} {k : zK d} (h1 : X.1 = RX2) (dg : decode X.2.1 pc = .ok (.getfield 60, 3)) (hs : zSim X fr P (pc + 3) k) : zSim X fr P pc (xgfI 18 14 k) := sm_getfieldI (ci := 2) (n := 14) (C := RX2) (T := TX2) (N := 15) rfl rfl inz2 rfl (by decide) rfl (by rw [h1]; exact wd_586) rfl dg hs
theorem gf_X2_42 [zGh] {d : Nat} {X : zM} {fr : Nat} {P : zP d} {pc : Nat} {k : zK d} (h1 : X.1 = RX2) (dg : decode X.2.1 pc = .ok (.getfield 42, 3)) (hs : zSim X fr P (pc + 3) k) : zSim X fr P pc (xgfR 18 10 k) := sm_getfieldR (ci := 2) (n := 10) (C := RX2) (T := TX2) (N := 15) rfl rfl inz2 rfl (by decide) rfl (by rw [h1]; exact wd_582) rfl dg hs
theorem gf_X2_81 [zGh] {d : Nat} {X : zM} {fr : Nat} {P : zP d} {pc : Nat} {k : zK d} (h1 : X.1 = RX2) (dg : decode X.2.1 pc = .ok (.getfield 81, 3)) (hs : zSim X fr P (pc + 3) k) : zSim X fr P pc (xgfI 22 1 k) := sm_getfieldI (ci := 6) (n := 1) (C := RX6) (T := TX6) (N := 2) rfl rfl inz6 rfl (by decide) rfl (by rw [h1]; exact wd_39) rfl dg hs
theorem gf_X2_86 [zGh] {d : Nat} {X : zM} {fr : Nat} {P : zP d} {pc : Nat} {k : zK d} (h1 : X.1 = RX2) (dg : decode X.2.1 pc = .ok (.getfield 86, 3)) (hs : zSim X fr P (pc + 3) k) : zSim X fr P pc (xgfR 22 0 k) := sm_getfieldR (ci := 6) (n := 0) (C := RX6) (T := TX6) (N := 2) rfl rfl inz6 rfl (by decide) rfl (by rw [h1]; exact wd_36) rfl dg hs
theorem pf_X2_60 [zGh] {d : Nat} {X : zM} {fr : Nat} {P : zP d} {pc : Nat} {k : zK d} (h1 : X.1 = RX2) (dg : decode X.2.1 pc = .ok (.putfield 60, 3)) (hs : zSim X fr P (pc + 3) k) : zSim X fr P pc (xpfI 18 14 k) := sm_putI (ci := 2) (n := 14) (ty := tyX2 14) rfl (by decide) rfl rfl (zput (C := RX2) (T := TX2) (N := 15) (ty0 := tyX2) (ty := tyX2 14) inz2 tyX2_ok nmX2 rfl (by decide) (by rw [h1]; exact wd_586) rfl rfl dg) hs
theorem gf_X2_12 [zGh] {d : Nat} {X : zM} {fr : Nat} {P : zP d} {pc : Nat} {k : zK d} (h1 : X.1 = RX2) (dg : decode X.2.1 pc = .ok (.getfield 12, 3)) (hs : zSim X fr P (pc + 3) k) : zSim X fr P pc (xgfR 18 0 k) := sm_getfieldR (ci := 2) (n := 0) (C := RX2) (T := TX2) (N := 15) rfl rfl inz2 rfl (by decide) rfl (by rw [h1]; exact wd_570) rfl dg hs
theorem cr_X2_89 {X : zM} {fr frc pc mc ms : Nat} (h1 : X.1 = RX2) (hfr : frc + 1 ≤ fr) (dg : decode X.2.1 pc = .ok (.invokevirtual 89, 3)) : zRun X (RX1, cX1_tell, 3, none, "tell") yX1_tell fr frc pc 3 mc ms (fun ws As => ∃ (b : Nat) (As' : List Value) (q0 : Nat) (fs : List Value), As = .ref b :: As' ∧ ws[q0]? = some (b, .inr (1, fs))) := zrunV (n := 2) (ci := 1) rfl rfl wd_717 wd_13 (by rw [h1]; exact wd_714) wd_715 wd_716 (by decide) hfr (by decide) dg
theorem gf_X2_29 [zGh] {d : Nat} {X : zM} {fr : Nat} {P : zP d} {pc : Nat} {k : zK d} (h1 : X.1 = RX2) (dg : decode X.2.1 pc = .ok (.getfield 29, 3)) (hs : zSim X fr P (pc + 3) k) : zSim X fr P pc (xgfR 18 4 k) := sm_getfieldR (ci := 2) (n := 4) (C := RX2) (T := TX2) (N := 15) rfl rfl inz2 rfl (by decide) rfl (by rw [h1]; exact wd_576) rfl dg hs
theorem cr_X2_93 {X : zM} {fr frc pc mc ms : Nat} (h1 : X.1 = RX2) (hfr : frc + 1 ≤ fr) (dg : decode X.2.1 pc = .ok (.invokevirtual 93, 3)) : zRun X (RX1, cX1_addWithin, 2, none, "addWithin") yX1_addWithin fr frc pc 2 mc ms (fun ws As => ∃ (b : Nat) (As' : List Value) (q0 : Nat) (fs : List Value), As = .ref b :: As' ∧ ws[q0]? = some (b, .inr (1, fs))) := zrunV (n := 1) (ci := 1) rfl rfl wd_738 wd_13 (by rw [h1]; exact wd_735) wd_736 wd_737 (by decide) hfr (by decide) dg
theorem gf_X2_33 [zGh] {d : Nat} {X : zM} {fr : Nat} {P : zP d} {pc : Nat} {k : zK d} (h1 : X.1 = RX2) (dg : decode X.2.1 pc = .ok (.getfield 33, 3)) (hs : zSim X fr P (pc + 3) k) : zSim X fr P pc (xgfR 18 5 k) := sm_getfieldR (ci := 2) (n := 5) (C := RX2) (T := TX2) (N := 15) rfl rfl inz2 rfl (by decide) rfl (by rw [h1]; exact wd_577) rfl dg hs
theorem gf_X2_36 [zGh] {d : Nat} {X : zM} {fr : Nat} {P : zP d} {pc : Nat} {k : zK d} (h1 : X.1 = RX2) (dg : decode X.2.1 pc = .ok (.getfield 36, 3)) (hs : zSim X fr P (pc + 3) k) : zSim X fr P pc (xgfR 18 6 k) := sm_getfieldR (ci := 2) (n := 6) (C := RX2) (T := TX2) (N := 15) rfl rfl inz2 rfl (by decide) rfl (by rw [h1]; exact wd_578) rfl dg hs
theorem cr_X2_74 {X : zM} {fr frc pc mc ms : Nat} (h1 : X.1 = RX2) (hfr : frc + 1 ≤ fr) (dg : decode X.2.1 pc = .ok (.invokevirtual 74, 3)) : zRun X (RX2, cX2_next, 1, (some .int), "next") yX2_next fr frc pc 1 mc ms (fun ws As => ∃ (b : Nat) (As' : List Value) (q0 : Nat) (fs : List Value), As = .ref b :: As' ∧ ws[q0]? = some (b, .inr (2, fs))) := zrunV (n := 0) (ci := 2) rfl rfl wd_694 wd_12 (by rw [h1]; exact wd_691) wd_693 ws_30 (by decide) hfr (by decide) dg
theorem cr_X2_126 {X : zM} {fr frc pc mc ms : Nat} (h1 : X.1 = RX2) (hfr : frc + 1 ≤ fr) (dg : decode X.2.1 pc = .ok (.invokestatic 126, 3)) : zRun X (RX2, cX2_isDigit, 1, (some .boolean), "isDigit") yX2_isDigit fr frc pc 1 mc ms (fun _ _ => True) := zrunS (n := 1) wd_705 wd_12 (by rw [h1]; exact wd_703) wd_704 (by decide) hfr (by decide) dg
theorem gf_X2_49 [zGh] {d : Nat} {X : zM} {fr : Nat} {P : zP d} {pc : Nat} {k : zK d} (h1 : X.1 = RX2) (dg : decode X.2.1 pc = .ok (.getfield 49, 3)) (hs : zSim X fr P (pc + 3) k) : zSim X fr P pc (xgfR 18 12 k) := sm_getfieldR (ci := 2) (n := 12) (C := RX2) (T := TX2) (N := 15) rfl rfl inz2 rfl (by decide) rfl (by rw [h1]; exact wd_584) rfl dg hs
theorem gf_X2_100 [zGh] {d : Nat} {X : zM} {fr : Nat} {P : zP d} {pc : Nat} {k : zK d} (h1 : X.1 = RX2) (dg : decode X.2.1 pc = .ok (.getfield 100, 3)) (hs : zSim X fr P (pc + 3) k) : zSim X fr P pc (xgfI 23 1 k) := sm_getfieldI (ci := 7) (n := 1) (C := RX7) (T := TX7) (N := 14) rfl rfl inz7 rfl (by decide) rfl (by rw [h1]; exact wd_267) rfl dg hs
theorem gf_X2_188 [zGh] {d : Nat} {X : zM} {fr : Nat} {P : zP d} {pc : Nat} {k : zK d} (h1 : X.1 = RX2) (dg : decode X.2.1 pc = .ok (.getfield 188, 3)) (hs : zSim X fr P (pc + 3) k) : zSim X fr P pc (xgfR 23 12 k) := sm_getfieldR (ci := 7) (n := 12) (C := RX7) (T := TX7) (N := 14) rfl rfl inz7 rfl (by decide) rfl (by rw [h1]; exact wd_295) rfl dg hs
theorem gf_X2_53 [zGh] {d : Nat} {X : zM} {fr : Nat} {P : zP d} {pc : Nat} {k : zK d} (h1 : X.1 = RX2) (dg : decode X.2.1 pc = .ok (.getfield 53, 3)) (hs : zSim X fr P (pc + 3) k) : zSim X fr P pc (xgfR 18 13 k) := sm_getfieldR (ci := 2) (n := 13) (C := RX2) (T := TX2) (N := 15) rfl rfl inz2 rfl (by decide) rfl (by rw [h1]; exact wd_585) rfl dg hs
theorem gf_X2_178 [zGh] {d : Nat} {X : zM} {fr : Nat} {P : zP d} {pc : Nat} {k : zK d} (h1 : X.1 = RX2) (dg : decode X.2.1 pc = .ok (.getfield 178, 3)) (hs : zSim X fr P (pc + 3) k) : zSim X fr P pc (xgfR 21 6 k) := sm_getfieldR (ci := 5) (n := 6) (C := RX5) (T := TX5) (N := 12) rfl rfl inz5 rfl (by decide) rfl (by rw [h1]; exact wd_500) rfl dg hs
theorem gf_X2_185 [zGh] {d : Nat} {X : zM} {fr : Nat} {P : zP d} {pc : Nat} {k : zK d} (h1 : X.1 = RX2) (dg : decode X.2.1 pc = .ok (.getfield 185, 3)) (hs : zSim X fr P (pc + 3) k) : zSim X fr P pc (xgfR 23 11 k) := sm_getfieldR (ci := 7) (n := 11) (C := RX7) (T := TX7) (N := 14) rfl rfl inz7 rfl (by decide) rfl (by rw [h1]; exact wd_291) rfl dg hs
theorem gf_X2_182 [zGh] {d : Nat} {X : zM} {fr : Nat} {P : zP d} {pc : Nat} {k : zK d} (h1 : X.1 = RX2) (dg : decode X.2.1 pc = .ok (.getfield 182, 3)) (hs : zSim X fr P (pc + 3) k) : zSim X fr P pc (xgfR 21 9 k) := sm_getfieldR (ci := 5) (n := 9) (C := RX5) (T := TX5) (N := 12) rfl rfl inz5 rfl (by decide) rfl (by rw [h1]; exact wd_507) rfl dg hs
theorem gf_X2_162 [zGh] {d : Nat} {X : zM} {fr : Nat} {P : zP d} {pc : Nat} {k : zK d} (h1 : X.1 = RX2) (dg : decode X.2.1 pc = .ok (.getfield 162, 3)) (hs : zSim X fr P (pc + 3) k) : zSim X fr P pc (xgfI 18 8 k) := sm_getfieldI (ci := 2) (n := 8) (C := RX2) (T := TX2) (N := 15) rfl rfl inz2 rfl (by decide) rfl (by rw [h1]; exact wd_580) rfl dg hs
theorem gf_X2_39 [zGh] {d : Nat} {X : zM} {fr : Nat} {P : zP d} {pc : Nat} {k : zK d} (h1 : X.1 = RX2) (dg : decode X.2.1 pc = .ok (.getfield 39, 3)) (hs : zSim X fr P (pc + 3) k) : zSim X fr P pc (xgfR 18 7 k) := sm_getfieldR (ci := 2) (n := 7) (C := RX2) (T := TX2) (N := 15) rfl rfl inz2 rfl (by decide) rfl (by rw [h1]; exact wd_579) rfl dg hs
theorem cr_X2_174 {X : zM} {fr frc pc mc ms : Nat} (h1 : X.1 = RX2) (hfr : frc + 1 ≤ fr) (dg : decode X.2.1 pc = .ok (.invokevirtual 174, 3)) : zRun X (RX2, cX2_rowFor, 3, (some (.array .int)), "rowFor") yX2_rowFor fr frc pc 3 mc ms (fun ws As => ∃ (b : Nat) (As' : List Value) (q0 : Nat) (fs : List Value), As = .ref b :: As' ∧ ws[q0]? = some (b, .inr (2, fs))) := zrunV (n := 2) (ci := 2) rfl rfl wd_743 wd_12 (by rw [h1]; exact wd_740) wd_742 ws_39 (by decide) hfr (by decide) dg
theorem gf_X2_26 [zGh] {d : Nat} {X : zM} {fr : Nat} {P : zP d} {pc : Nat} {k : zK d} (h1 : X.1 = RX2) (dg : decode X.2.1 pc = .ok (.getfield 26, 3)) (hs : zSim X fr P (pc + 3) k) : zSim X fr P pc (xgfR 18 3 k) := sm_getfieldR (ci := 2) (n := 3) (C := RX2) (T := TX2) (N := 15) rfl rfl inz2 rfl (by decide) rfl (by rw [h1]; exact wd_575) rfl dg hs
theorem cr_X2_143 {X : zM} {fr frc pc mc ms : Nat} (h1 : X.1 = RX2) (hfr : frc + 1 ≤ fr) (dg : decode X.2.1 pc = .ok (.invokevirtual 143, 3)) : zRun X (RX2, cX2_copy, 4, none, "copy") yX2_copy fr frc pc 3 mc ms (fun ws As => ∃ (b : Nat) (As' : List Value) (q0 : Nat) (fs : List Value), As = .ref b :: As' ∧ ws[q0]? = some (b, .inr (2, fs))) := zrunV (n := 2) (ci := 2) rfl rfl wd_747 wd_12 (by rw [h1]; exact wd_744) wd_746 ws_40 (by decide) hfr (by decide) dg
theorem cr_X2_169 {X : zM} {fr frc pc mc ms : Nat} (h1 : X.1 = RX2) (hfr : frc + 1 ≤ fr) (dg : decode X.2.1 pc = .ok (.invokevirtual 169, 3)) : zRun X (RX5, cX5_isRegular, 2, (some .boolean), "isRegular") yX5_isRegular fr frc pc 2 mc ms (fun ws As => ∃ (b : Nat) (As' : List Value) (q0 : Nat) (fs : List Value), As = .ref b :: As' ∧ ws[q0]? = some (b, .inr (5, fs))) := zrunV (n := 1) (ci := 5) rfl rfl wd_390 wd_9 (by rw [h1]; exact wd_739) wd_388 wd_389 (by decide) hfr (by decide) dg
theorem cr_X2_115 {X : zM} {fr frc pc mc ms : Nat} (h1 : X.1 = RX2) (hfr : frc + 1 ≤ fr) (dg : decode X.2.1 pc = .ok (.invokevirtual 115, 3)) : zRun X (RX2, cX2_fail, 6, (some .boolean), "fail") yX2_fail fr frc pc 5 mc ms (fun ws As => ∃ (b : Nat) (As' : List Value) (q0 : Nat) (fs : List Value), As = .ref b :: As' ∧ ws[q0]? = some (b, .inr (2, fs))) := zrunV (n := 4) (ci := 2) rfl rfl wd_734 wd_12 (by rw [h1]; exact wd_731) wd_733 ws_38 (by decide) hfr (by decide) dg
theorem gf_X2_159 [zGh] {d : Nat} {X : zM} {fr : Nat} {P : zP d} {pc : Nat} {k : zK d} (h1 : X.1 = RX2) (dg : decode X.2.1 pc = .ok (.getfield 159, 3)) (hs : zSim X fr P (pc + 3) k) : zSim X fr P pc (xgfI 18 9 k) := sm_getfieldI (ci := 2) (n := 9) (C := RX2) (T := TX2) (N := 15) rfl rfl inz2 rfl (by decide) rfl (by rw [h1]; exact wd_581) rfl dg hs
theorem cr_X2_165 {X : zM} {fr frc pc mc ms : Nat} (h1 : X.1 = RX2) (hfr : frc + 1 ≤ fr) (dg : decode X.2.1 pc = .ok (.invokevirtual 165, 3)) : zRun X (RX7, cX7_numberOf, 6, (some .int), "numberOf") yX7_numberOf fr frc pc 3 mc ms (fun ws As => ∃ (b : Nat) (As' : List Value) (q0 : Nat) (fs : List Value), As = .ref b :: As' ∧ ws[q0]? = some (b, .inr (7, fs))) := zrunV (n := 2) (ci := 7) rfl rfl wd_205 wd_3 (by rw [h1]; exact wd_730) wd_203 wd_204 (by decide) hfr (by decide) dg
theorem pf_X2_159 [zGh] {d : Nat} {X : zM} {fr : Nat} {P : zP d} {pc : Nat} {k : zK d} (h1 : X.1 = RX2) (dg : decode X.2.1 pc = .ok (.putfield 159, 3)) (hs : zSim X fr P (pc + 3) k) : zSim X fr P pc (xpfI 18 9 k) := sm_putI (ci := 2) (n := 9) (ty := tyX2 9) rfl (by decide) rfl rfl (zput (C := RX2) (T := TX2) (N := 15) (ty0 := tyX2) (ty := tyX2 9) inz2 tyX2_ok nmX2 rfl (by decide) (by rw [h1]; exact wd_581) rfl rfl dg) hs
theorem pf_X2_162 [zGh] {d : Nat} {X : zM} {fr : Nat} {P : zP d} {pc : Nat} {k : zK d} (h1 : X.1 = RX2) (dg : decode X.2.1 pc = .ok (.putfield 162, 3)) (hs : zSim X fr P (pc + 3) k) : zSim X fr P pc (xpfI 18 8 k) := sm_putI (ci := 2) (n := 8) (ty := tyX2 8) rfl (by decide) rfl rfl (zput (C := RX2) (T := TX2) (N := 15) (ty0 := tyX2) (ty := tyX2 8) inz2 tyX2_ok nmX2 rfl (by decide) (by rw [h1]; exact wd_580) rfl rfl dg) hs
theorem cr_X2_78 {X : zM} {fr frc pc mc ms : Nat} (h1 : X.1 = RX2) (hfr : frc + 1 ≤ fr) (dg : decode X.2.1 pc = .ok (.invokevirtual 78, 3)) : zRun X (RX2, cX2_refuse, 2, (some .boolean), "refuse") yX2_refuse fr frc pc 2 mc ms (fun ws As => ∃ (b : Nat) (As' : List Value) (q0 : Nat) (fs : List Value), As = .ref b :: As' ∧ ws[q0]? = some (b, .inr (2, fs))) := zrunV (n := 1) (ci := 2) rfl rfl wd_725 wd_12 (by rw [h1]; exact wd_722) wd_724 ws_36 (by decide) hfr (by decide) dg
theorem cr_X2_153 {X : zM} {fr frc pc mc ms : Nat} (h1 : X.1 = RX2) (hfr : frc + 1 ≤ fr) (dg : decode X.2.1 pc = .ok (.invokevirtual 153, 3)) : zRun X (RX2, cX2_readNumber, 4, (some .int), "readNumber") yX2_readNumber fr frc pc 1 mc ms (fun ws As => ∃ (b : Nat) (As' : List Value) (q0 : Nat) (fs : List Value), As = .ref b :: As' ∧ ws[q0]? = some (b, .inr (2, fs))) := zrunV (n := 0) (ci := 2) rfl rfl wd_713 wd_12 (by rw [h1]; exact wd_710) wd_712 ws_34 (by decide) hfr (by decide) dg
theorem cr_X2_64 {X : zM} {fr frc pc mc ms : Nat} (h1 : X.1 = RX2) (hfr : frc + 1 ≤ fr) (dg : decode X.2.1 pc = .ok (.invokestatic 64, 3)) : zRun X (RJ7, cJ7_fill_d0a16, 5, none, "fill") yJ7_fill_d0a16 fr frc pc 2 mc ms (fun _ _ => True) := zrunS (n := 2) wd_653 wd_5 (by rw [h1]; exact wd_686) wd_652 (by decide) hfr (by decide) dg
theorem cr_X2_156 {X : zM} {fr frc pc mc ms : Nat} (h1 : X.1 = RX2) (hfr : frc + 1 ≤ fr) (dg : decode X.2.1 pc = .ok (.invokestatic 156, 3)) : zRun X (RX8, cX8_isSlot, 1, (some .boolean), "isSlot") yX8_isSlot fr frc pc 1 mc ms (fun _ _ => True) := zrunSN (n := 1) (host := "PrimeBlocks") wd_676 wd_1 (by rw [h1]; decide) wd_675 (by decide) hfr (by decide) dg
theorem gf_X2_46 [zGh] {d : Nat} {X : zM} {fr : Nat} {P : zP d} {pc : Nat} {k : zK d} (h1 : X.1 = RX2) (dg : decode X.2.1 pc = .ok (.getfield 46, 3)) (hs : zSim X fr P (pc + 3) k) : zSim X fr P pc (xgfR 18 11 k) := sm_getfieldR (ci := 2) (n := 11) (C := RX2) (T := TX2) (N := 15) rfl rfl inz2 rfl (by decide) rfl (by rw [h1]; exact wd_583) rfl dg hs
theorem cr_X2_70 {X : zM} {fr frc pc mc ms : Nat} (h1 : X.1 = RX2) (hfr : frc + 1 ≤ fr) (dg : decode X.2.1 pc = .ok (.invokevirtual 70, 3)) : zRun X (RX2, cX2_readSum, 5, (some .boolean), "readSum") yX2_readSum fr frc pc 2 mc ms (fun ws As => ∃ (b : Nat) (As' : List Value) (q0 : Nat) (fs : List Value), As = .ref b :: As' ∧ ws[q0]? = some (b, .inr (2, fs))) := zrunV (n := 1) (ci := 2) rfl rfl wd_690 wd_12 (by rw [h1]; exact wd_687) wd_689 ws_29 (by decide) hfr (by decide) dg
theorem gf_X2_20 [zGh] {d : Nat} {X : zM} {fr : Nat} {P : zP d} {pc : Nat} {k : zK d} (h1 : X.1 = RX2) (dg : decode X.2.1 pc = .ok (.getfield 20, 3)) (hs : zSim X fr P (pc + 3) k) : zSim X fr P pc (xgfR 18 1 k) := sm_getfieldR (ci := 2) (n := 1) (C := RX2) (T := TX2) (N := 15) rfl rfl inz2 rfl (by decide) rfl (by rw [h1]; exact wd_572) rfl dg hs
theorem cr_X2_150 {X : zM} {fr frc pc mc ms : Nat} (h1 : X.1 = RX2) (hfr : frc + 1 ≤ fr) (dg : decode X.2.1 pc = .ok (.invokevirtual 150, 3)) : zRun X (RX2, cX2_readInBrackets, 2, (some .boolean), "readInBrackets") yX2_readInBrackets fr frc pc 2 mc ms (fun ws As => ∃ (b : Nat) (As' : List Value) (q0 : Nat) (fs : List Value), As = .ref b :: As' ∧ ws[q0]? = some (b, .inr (2, fs))) := zrunV (n := 1) (ci := 2) rfl rfl wd_757 wd_12 (by rw [h1]; exact wd_754) wd_756 ws_42 (by decide) hfr (by decide) dg
theorem cr_X2_132 {X : zM} {fr frc pc mc ms : Nat} (h1 : X.1 = RX2) (hfr : frc + 1 ≤ fr) (dg : decode X.2.1 pc = .ok (.invokevirtual 132, 3)) : zRun X (RX2, cX2_readList, 4, (some .boolean), "readList") yX2_readList fr frc pc 1 mc ms (fun ws As => ∃ (b : Nat) (As' : List Value) (q0 : Nat) (fs : List Value), As = .ref b :: As' ∧ ws[q0]? = some (b, .inr (2, fs))) := zrunV (n := 0) (ci := 2) rfl rfl wd_721 wd_12 (by rw [h1]; exact wd_718) wd_720 ws_35 (by decide) hfr (by decide) dg
theorem cr_X2_136 {X : zM} {fr frc pc mc ms : Nat} (h1 : X.1 = RX2) (hfr : frc + 1 ≤ fr) (dg : decode X.2.1 pc = .ok (.invokevirtual 136, 3)) : zRun X (RX2, cX2_takeCharacter, 4, (some .boolean), "takeCharacter") yX2_takeCharacter fr frc pc 3 mc ms (fun ws As => ∃ (b : Nat) (As' : List Value) (q0 : Nat) (fs : List Value), As = .ref b :: As' ∧ ws[q0]? = some (b, .inr (2, fs))) := zrunV (n := 2) (ci := 2) rfl rfl wd_729 wd_12 (by rw [h1]; exact wd_726) wd_728 ws_37 (by decide) hfr (by decide) dg
theorem gf_X2_140 [zGh] {d : Nat} {X : zM} {fr : Nat} {P : zP d} {pc : Nat} {k : zK d} (h1 : X.1 = RX2) (dg : decode X.2.1 pc = .ok (.getfield 140, 3)) (hs : zSim X fr P (pc + 3) k) : zSim X fr P pc (xgfR 23 7 k) := sm_getfieldR (ci := 7) (n := 7) (C := RX7) (T := TX7) (N := 14) rfl rfl inz7 rfl (by decide) rfl (by rw [h1]; exact wd_282) rfl dg hs
theorem cr_X2_147 {X : zM} {fr frc pc mc ms : Nat} (h1 : X.1 = RX2) (hfr : frc + 1 ≤ fr) (dg : decode X.2.1 pc = .ok (.invokevirtual 147, 3)) : zRun X (RX2, cX2_readSlot, 4, (some .boolean), "readSlot") yX2_readSlot fr frc pc 2 mc ms (fun ws As => ∃ (b : Nat) (As' : List Value) (q0 : Nat) (fs : List Value), As = .ref b :: As' ∧ ws[q0]? = some (b, .inr (2, fs))) := zrunV (n := 1) (ci := 2) rfl rfl wd_751 wd_12 (by rw [h1]; exact wd_748) wd_750 ws_41 (by decide) hfr (by decide) dg
theorem cr_X2_129 {X : zM} {fr frc pc mc ms : Nat} (h1 : X.1 = RX2) (hfr : frc + 1 ≤ fr) (dg : decode X.2.1 pc = .ok (.invokevirtual 129, 3)) : zRun X (RX2, cX2_readConstant, 3, (some .boolean), "readConstant") yX2_readConstant fr frc pc 2 mc ms (fun ws As => ∃ (b : Nat) (As' : List Value) (q0 : Nat) (fs : List Value), As = .ref b :: As' ∧ ws[q0]? = some (b, .inr (2, fs))) := zrunV (n := 1) (ci := 2) rfl rfl wd_709 wd_12 (by rw [h1]; exact wd_706) wd_708 ws_33 (by decide) hfr (by decide) dg
theorem cr_X2_119 {X : zM} {fr frc pc mc ms : Nat} (h1 : X.1 = RX2) (hfr : frc + 1 ≤ fr) (dg : decode X.2.1 pc = .ok (.invokevirtual 119, 3)) : zRun X (RX2, cX2_readFactor, 3, (some .boolean), "readFactor") yX2_readFactor fr frc pc 2 mc ms (fun ws As => ∃ (b : Nat) (As' : List Value) (q0 : Nat) (fs : List Value), As = .ref b :: As' ∧ ws[q0]? = some (b, .inr (2, fs))) := zrunV (n := 1) (ci := 2) rfl rfl wd_702 wd_12 (by rw [h1]; exact wd_699) wd_701 ws_32 (by decide) hfr (by decide) dg
theorem gf_X2_23 [zGh] {d : Nat} {X : zM} {fr : Nat} {P : zP d} {pc : Nat} {k : zK d} (h1 : X.1 = RX2) (dg : decode X.2.1 pc = .ok (.getfield 23, 3)) (hs : zSim X fr P (pc + 3) k) : zSim X fr P pc (xgfR 18 2 k) := sm_getfieldR (ci := 2) (n := 2) (C := RX2) (T := TX2) (N := 15) rfl rfl inz2 rfl (by decide) rfl (by rw [h1]; exact wd_574) rfl dg hs
theorem cr_X2_122 {X : zM} {fr frc pc mc ms : Nat} (h1 : X.1 = RX2) (hfr : frc + 1 ≤ fr) (dg : decode X.2.1 pc = .ok (.invokevirtual 122, 3)) : zRun X (RX2, cX2_multiply, 4, (some .boolean), "multiply") yX2_multiply fr frc pc 3 mc ms (fun ws As => ∃ (b : Nat) (As' : List Value) (q0 : Nat) (fs : List Value), As = .ref b :: As' ∧ ws[q0]? = some (b, .inr (2, fs))) := zrunV (n := 2) (ci := 2) rfl rfl wd_761 wd_12 (by rw [h1]; exact wd_758) wd_760 ws_43 (by decide) hfr (by decide) dg
theorem cr_X2_97 {X : zM} {fr frc pc mc ms : Nat} (h1 : X.1 = RX2) (hfr : frc + 1 ≤ fr) (dg : decode X.2.1 pc = .ok (.invokevirtual 97, 3)) : zRun X (RX2, cX2_readTerm, 4, (some .boolean), "readTerm") yX2_readTerm fr frc pc 2 mc ms (fun ws As => ∃ (b : Nat) (As' : List Value) (q0 : Nat) (fs : List Value), As = .ref b :: As' ∧ ws[q0]? = some (b, .inr (2, fs))) := zrunV (n := 1) (ci := 2) rfl rfl wd_698 wd_12 (by rw [h1]; exact wd_695) wd_697 ws_31 (by decide) hfr (by decide) dg
theorem cr_X2_111 {X : zM} {fr frc pc mc ms : Nat} (h1 : X.1 = RX2) (hfr : frc + 1 ≤ fr) (dg : decode X.2.1 pc = .ok (.invokevirtual 111, 3)) : zRun X (RX2, cX2_add, 7, (some .boolean), "add") yX2_add fr frc pc 4 mc ms (fun ws As => ∃ (b : Nat) (As' : List Value) (q0 : Nat) (fs : List Value), As = .ref b :: As' ∧ ws[q0]? = some (b, .inr (2, fs))) := zrunV (n := 3) (ci := 2) rfl rfl wd_769 wd_12 (by rw [h1]; exact wd_766) wd_768 ws_44 (by decide) hfr (by decide) dg
theorem cr_X2_57 {X : zM} {fr frc pc mc ms : Nat} (h1 : X.1 = RX2) (hfr : frc + 1 ≤ fr) (dg : decode X.2.1 pc = .ok (.invokevirtual 57, 3)) : zRun X (RX1, cX1_clear, 1, none, "clear") yX1_clear fr frc pc 1 mc ms (fun ws As => ∃ (b : Nat) (As' : List Value) (q0 : Nat) (fs : List Value), As = .ref b :: As' ∧ ws[q0]? = some (b, .inr (1, fs))) := zrunV (n := 0) (ci := 1) rfl rfl wd_680 wd_13 (by rw [h1]; exact wd_685) wd_678 wd_679 (by decide) hfr (by decide) dg
theorem gf_X8_40 [zGh] {d : Nat} {X : zM} {fr : Nat} {P : zP d} {pc : Nat} {k : zK d} (h1 : X.1 = RX8) (dg : decode X.2.1 pc = .ok (.getfield 40, 3)) (hs : zSim X fr P (pc + 3) k) : zSim X fr P pc (xgfR 24 6 k) := sm_getfieldR (ci := 8) (n := 6) (C := RX8) (T := TX8) (N := 8) rfl rfl inz8 rfl (by decide) rfl (by rw [h1]; exact wd_624) rfl dg hs
theorem gf_X8_74 [zGh] {d : Nat} {X : zM} {fr : Nat} {P : zP d} {pc : Nat} {k : zK d} (h1 : X.1 = RX8) (dg : decode X.2.1 pc = .ok (.getfield 74, 3)) (hs : zSim X fr P (pc + 3) k) : zSim X fr P pc (xgfI 23 1 k) := sm_getfieldI (ci := 7) (n := 1) (C := RX7) (T := TX7) (N := 14) rfl rfl inz7 rfl (by decide) rfl (by rw [h1]; exact wd_266) rfl dg hs
theorem cr_X8_126 {X : zM} {fr frc pc mc ms : Nat} (h1 : X.1 = RX8) (hfr : frc + 1 ≤ fr) (dg : decode X.2.1 pc = .ok (.invokevirtual 126, 3)) : zRun X (RX8, cX8_isPartition, 2, (some .boolean), "isPartition") yX8_isPartition fr frc pc 2 mc ms (fun ws As => ∃ (b : Nat) (As' : List Value) (q0 : Nat) (fs : List Value), As = .ref b :: As' ∧ ws[q0]? = some (b, .inr (8, fs))) := zrunV (n := 1) (ci := 8) rfl rfl wd_783 wd_1 (by rw [h1]; exact wd_780) wd_782 ws_45 (by decide) hfr (by decide) dg
theorem gf_X8_47 [zGh] {d : Nat} {X : zM} {fr : Nat} {P : zP d} {pc : Nat} {k : zK d} (h1 : X.1 = RX8) (dg : decode X.2.1 pc = .ok (.getfield 47, 3)) (hs : zSim X fr P (pc + 3) k) : zSim X fr P pc (xgfR 24 7 k) := sm_getfieldR (ci := 8) (n := 7) (C := RX8) (T := TX8) (N := 8) rfl rfl inz8 rfl (by decide) rfl (by rw [h1]; exact wd_625) rfl dg hs
theorem cr_X8_145 {X : zM} {fr frc pc mc ms : Nat} (h1 : X.1 = RX8) (hfr : frc + 1 ≤ fr) (dg : decode X.2.1 pc = .ok (.invokevirtual 145, 3)) : zRun X (RX5, cX5_isRegular, 2, (some .boolean), "isRegular") yX5_isRegular fr frc pc 2 mc ms (fun ws As => ∃ (b : Nat) (As' : List Value) (q0 : Nat) (fs : List Value), As = .ref b :: As' ∧ ws[q0]? = some (b, .inr (5, fs))) := zrunV (n := 1) (ci := 5) rfl rfl wd_390 wd_9 (by rw [h1]; exact wd_791) wd_388 wd_389 (by decide) hfr (by decide) dg
theorem gf_X8_193 [zGh] {d : Nat} {X : zM} {fr : Nat} {P : zP d} {pc : Nat} {k : zK d} (h1 : X.1 = RX8) (dg : decode X.2.1 pc = .ok (.getfield 193, 3)) (hs : zSim X fr P (pc + 3) k) : zSim X fr P pc (xgfR 23 5 k) := sm_getfieldR (ci := 7) (n := 5) (C := RX7) (T := TX7) (N := 14) rfl rfl inz7 rfl (by decide) rfl (by rw [h1]; exact wd_277) rfl dg hs
theorem gf_X8_209 [zGh] {d : Nat} {X : zM} {fr : Nat} {P : zP d} {pc : Nat} {k : zK d} (h1 : X.1 = RX8) (dg : decode X.2.1 pc = .ok (.getfield 209, 3)) (hs : zSim X fr P (pc + 3) k) : zSim X fr P pc (xgfR 23 12 k) := sm_getfieldR (ci := 7) (n := 12) (C := RX7) (T := TX7) (N := 14) rfl rfl inz7 rfl (by decide) rfl (by rw [h1]; exact wd_294) rfl dg hs
theorem gf_X8_218 [zGh] {d : Nat} {X : zM} {fr : Nat} {P : zP d} {pc : Nat} {k : zK d} (h1 : X.1 = RX8) (dg : decode X.2.1 pc = .ok (.getfield 218, 3)) (hs : zSim X fr P (pc + 3) k) : zSim X fr P pc (xgfR 21 9 k) := sm_getfieldR (ci := 5) (n := 9) (C := RX5) (T := TX5) (N := 12) rfl rfl inz5 rfl (by decide) rfl (by rw [h1]; exact wd_506) rfl dg hs
theorem gf_X8_266 [zGh] {d : Nat} {X : zM} {fr : Nat} {P : zP d} {pc : Nat} {k : zK d} (h1 : X.1 = RX8) (dg : decode X.2.1 pc = .ok (.getfield 266, 3)) (hs : zSim X fr P (pc + 3) k) : zSim X fr P pc (xgfI 23 2 k) := sm_getfieldI (ci := 7) (n := 2) (C := RX7) (T := TX7) (N := 14) rfl rfl inz7 rfl (by decide) rfl (by rw [h1]; exact wd_269) rfl dg hs
theorem cr_X8_256 {X : zM} {fr frc pc mc ms : Nat} (h1 : X.1 = RX8) (hfr : frc + 1 ≤ fr) (dg : decode X.2.1 pc = .ok (.invokevirtual 256, 3)) : zRun X (RX8, cX8_timesFactorial, 8, (some .long), "timesFactorial") yX8_timesFactorial fr frc pc 4 mc ms (fun ws As => ∃ (b : Nat) (As' : List Value) (q0 : Nat) (fs : List Value), As = .ref b :: As' ∧ ws[q0]? = some (b, .inr (8, fs))) := zrunV (n := 3) (ci := 8) rfl rfl wd_858 wd_1 (by rw [h1]; exact wd_855) wd_857 ws_47 (by decide) hfr (by decide) dg
theorem cr_X8_283 {X : zM} {fr frc pc mc ms : Nat} (h1 : X.1 = RX8) (hfr : frc + 1 ≤ fr) (dg : decode X.2.1 pc = .ok (.invokevirtual 283, 3)) : zRun X (RX8, cX8_isWholeTimes, 3, (some .boolean), "isWholeTimes") yX8_isWholeTimes fr frc pc 2 mc ms (fun ws As => ∃ (b : Nat) (As' : List Value) (q0 : Nat) (fs : List Value), As = .ref b :: As' ∧ ws[q0]? = some (b, .inr (8, fs))) := zrunV (n := 1) (ci := 8) rfl rfl wd_881 wd_1 (by rw [h1]; exact wd_878) wd_880 ws_50 (by decide) hfr (by decide) dg
theorem gf_X8_199 [zGh] {d : Nat} {X : zM} {fr : Nat} {P : zP d} {pc : Nat} {k : zK d} (h1 : X.1 = RX8) (dg : decode X.2.1 pc = .ok (.getfield 199, 3)) (hs : zSim X fr P (pc + 3) k) : zSim X fr P pc (xgfR 21 4 k) := sm_getfieldR (ci := 5) (n := 4) (C := RX5) (T := TX5) (N := 12) rfl rfl inz5 rfl (by decide) rfl (by rw [h1]; exact wd_495) rfl dg hs
theorem gf_X8_23 [zGh] {d : Nat} {X : zM} {fr : Nat} {P : zP d} {pc : Nat} {k : zK d} (h1 : X.1 = RX8) (dg : decode X.2.1 pc = .ok (.getfield 23, 3)) (hs : zSim X fr P (pc + 3) k) : zSim X fr P pc (xgfR 24 2 k) := sm_getfieldR (ci := 8) (n := 2) (C := RX8) (T := TX8) (N := 8) rfl rfl inz8 rfl (by decide) rfl (by rw [h1]; exact wd_620) rfl dg hs
theorem gf_X8_26 [zGh] {d : Nat} {X : zM} {fr : Nat} {P : zP d} {pc : Nat} {k : zK d} (h1 : X.1 = RX8) (dg : decode X.2.1 pc = .ok (.getfield 26, 3)) (hs : zSim X fr P (pc + 3) k) : zSim X fr P pc (xgfR 24 3 k) := sm_getfieldR (ci := 8) (n := 3) (C := RX8) (T := TX8) (N := 8) rfl rfl inz8 rfl (by decide) rfl (by rw [h1]; exact wd_621) rfl dg hs
theorem pf_X8_11 [zGh] {d : Nat} {X : zM} {fr : Nat} {P : zP d} {pc : Nat} {k : zK d} (h1 : X.1 = RX8) (h2 : X.2.2.2.2 = "<init>") (dg : decode X.2.1 pc = .ok (.putfield 11, 3)) (hs : zSim X fr P (pc + 3) k) : zSim X fr P pc (xpfR 24 0 k) := sm_putR (ci := 8) (n := 0) (ty := tyX8 0) rfl (by decide) rfl rfl (zputF (C := RX8) (T := TX8) (N := 8) (ty0 := tyX8) (ty := tyX8 0) inz8 tyX8_ok nmX8 rfl (by decide) (by rw [h1]; exact wd_618) rfl rfl h2 (by rw [h1]; rfl) dg) hs
theorem pf_X8_17 [zGh] {d : Nat} {X : zM} {fr : Nat} {P : zP d} {pc : Nat} {k : zK d} (h1 : X.1 = RX8) (h2 : X.2.2.2.2 = "<init>") (dg : decode X.2.1 pc = .ok (.putfield 17, 3)) (hs : zSim X fr P (pc + 3) k) : zSim X fr P pc (xpfR 24 1 k) := sm_putR (ci := 8) (n := 1) (ty := tyX8 1) rfl (by decide) rfl rfl (zputF (C := RX8) (T := TX8) (N := 8) (ty0 := tyX8) (ty := tyX8 1) inz8 tyX8_ok nmX8 rfl (by decide) (by rw [h1]; exact wd_619) rfl rfl h2 (by rw [h1]; rfl) dg) hs
theorem pf_X8_23 [zGh] {d : Nat} {X : zM} {fr : Nat} {P : zP d} {pc : Nat} {k : zK d} (h1 : X.1 = RX8) (h2 : X.2.2.2.2 = "<init>") (dg : decode X.2.1 pc = .ok (.putfield 23, 3)) (hs : zSim X fr P (pc + 3) k) : zSim X fr P pc (xpfR 24 2 k) := sm_putR (ci := 8) (n := 2) (ty := tyX8 2) rfl (by decide) rfl rfl (zputF (C := RX8) (T := TX8) (N := 8) (ty0 := tyX8) (ty := tyX8 2) inz8 tyX8_ok nmX8 rfl (by decide) (by rw [h1]; exact wd_620) rfl rfl h2 (by rw [h1]; rfl) dg) hs
theorem pf_X8_26 [zGh] {d : Nat} {X : zM} {fr : Nat} {P : zP d} {pc : Nat} {k : zK d} (h1 : X.1 = RX8) (h2 : X.2.2.2.2 = "<init>") (dg : decode X.2.1 pc = .ok (.putfield 26, 3)) (hs : zSim X fr P (pc + 3) k) : zSim X fr P pc (xpfR 24 3 k) := sm_putR (ci := 8) (n := 3) (ty := tyX8 3) rfl (by decide) rfl rfl (zputF (C := RX8) (T := TX8) (N := 8) (ty0 := tyX8) (ty := tyX8 3) inz8 tyX8_ok nmX8 rfl (by decide) (by rw [h1]; exact wd_621) rfl rfl h2 (by rw [h1]; rfl) dg) hs
theorem cr_X8_32 {X : zM} {fr frc pc mc ms : Nat} (h1 : X.1 = RX8) (hfr : frc + 1 ≤ fr) (dg : decode X.2.1 pc = .ok (.invokespecial 32, 3)) : zRun X (RX6, cX6_init, 1, none, "<init>") yX6_init fr frc pc 1 mc ms (fun ws As => ∃ (b : Nat) (As' : List Value) (q0 : Nat) (fs : List Value), As = .ref b :: As' ∧ ws[q0]? = some (b, .inr (6, fs))) := zrunIN (n := 0) (ci := 6) (host := "PrimeBlocks") wd_33 rfl wd_2 (by rw [h1]; decide) wd_32 rfl (by decide) hfr (by decide) dg
theorem pf_X8_33 [zGh] {d : Nat} {X : zM} {fr : Nat} {P : zP d} {pc : Nat} {k : zK d} (h1 : X.1 = RX8) (h2 : X.2.2.2.2 = "<init>") (dg : decode X.2.1 pc = .ok (.putfield 33, 3)) (hs : zSim X fr P (pc + 3) k) : zSim X fr P pc (xpfR 24 4 k) := sm_putR (ci := 8) (n := 4) (ty := tyX8 4) rfl (by decide) rfl rfl (zputF (C := RX8) (T := TX8) (N := 8) (ty0 := tyX8) (ty := tyX8 4) inz8 tyX8_ok nmX8 rfl (by decide) (by rw [h1]; exact wd_622) rfl rfl h2 (by rw [h1]; rfl) dg) hs
theorem cr_X8_37 {X : zM} {fr frc pc mc ms : Nat} (h1 : X.1 = RX8) (hfr : frc + 1 ≤ fr) (dg : decode X.2.1 pc = .ok (.invokespecial 37, 3)) : zRun X (RX7, cX7_init, 3, none, "<init>") yX7_init fr frc pc 2 mc ms (fun ws As => ∃ (b : Nat) (As' : List Value) (q0 : Nat) (fs : List Value), As = .ref b :: As' ∧ ws[q0]? = some (b, .inr (7, fs))) := zrunI (n := 1) (ci := 7) wd_50 rfl wd_3 (by rw [h1]; exact wd_48) wd_49 rfl (by decide) hfr (by decide) dg
theorem pf_X8_40 [zGh] {d : Nat} {X : zM} {fr : Nat} {P : zP d} {pc : Nat} {k : zK d} (h1 : X.1 = RX8) (dg : decode X.2.1 pc = .ok (.putfield 40, 3)) (hs : zSim X fr P (pc + 3) k) : zSim X fr P pc (xpfR 24 6 k) := sm_putR (ci := 8) (n := 6) (ty := tyX8 6) rfl (by decide) rfl rfl (zput (C := RX8) (T := TX8) (N := 8) (ty0 := tyX8) (ty := tyX8 6) inz8 tyX8_ok nmX8 rfl (by decide) (by rw [h1]; exact wd_624) rfl rfl dg) hs
theorem cr_X8_44 {X : zM} {fr frc pc mc ms : Nat} (h1 : X.1 = RX8) (hfr : frc + 1 ≤ fr) (dg : decode X.2.1 pc = .ok (.invokespecial 44, 3)) : zRun X (RX5, cX5_init, 4, none, "<init>") yX5_init fr frc pc 3 mc ms (fun ws As => ∃ (b : Nat) (As' : List Value) (q0 : Nat) (fs : List Value), As = .ref b :: As' ∧ ws[q0]? = some (b, .inr (5, fs))) := zrunI (n := 2) (ci := 5) wd_330 rfl wd_9 (by rw [h1]; exact wd_328) wd_329 rfl (by decide) hfr (by decide) dg
theorem pf_X8_47 [zGh] {d : Nat} {X : zM} {fr : Nat} {P : zP d} {pc : Nat} {k : zK d} (h1 : X.1 = RX8) (dg : decode X.2.1 pc = .ok (.putfield 47, 3)) (hs : zSim X fr P (pc + 3) k) : zSim X fr P pc (xpfR 24 7 k) := sm_putR (ci := 8) (n := 7) (ty := tyX8 7) rfl (by decide) rfl rfl (zput (C := RX8) (T := TX8) (N := 8) (ty0 := tyX8) (ty := tyX8 7) inz8 tyX8_ok nmX8 rfl (by decide) (by rw [h1]; exact wd_625) rfl rfl dg) hs
theorem gf_X8_11 [zGh] {d : Nat} {X : zM} {fr : Nat} {P : zP d} {pc : Nat} {k : zK d} (h1 : X.1 = RX8) (dg : decode X.2.1 pc = .ok (.getfield 11, 3)) (hs : zSim X fr P (pc + 3) k) : zSim X fr P pc (xgfR 24 0 k) := sm_getfieldR (ci := 8) (n := 0) (C := RX8) (T := TX8) (N := 8) rfl rfl inz8 rfl (by decide) rfl (by rw [h1]; exact wd_618) rfl dg hs
theorem gf_X8_17 [zGh] {d : Nat} {X : zM} {fr : Nat} {P : zP d} {pc : Nat} {k : zK d} (h1 : X.1 = RX8) (dg : decode X.2.1 pc = .ok (.getfield 17, 3)) (hs : zSim X fr P (pc + 3) k) : zSim X fr P pc (xgfR 24 1 k) := sm_getfieldR (ci := 8) (n := 1) (C := RX8) (T := TX8) (N := 8) rfl rfl inz8 rfl (by decide) rfl (by rw [h1]; exact wd_619) rfl dg hs
theorem cr_X8_51 {X : zM} {fr frc pc mc ms : Nat} (h1 : X.1 = RX8) (hfr : frc + 1 ≤ fr) (dg : decode X.2.1 pc = .ok (.invokestatic 51, 3)) : zRun X (RX8, cX8_groupIndex, 2, (some .int), "groupIndex") yX8_groupIndex fr frc pc 2 mc ms (fun _ _ => True) := zrunS (n := 2) wd_539 wd_1 (by rw [h1]; exact wd_537) wd_538 (by decide) hfr (by decide) dg
theorem gf_X8_33 [zGh] {d : Nat} {X : zM} {fr : Nat} {P : zP d} {pc : Nat} {k : zK d} (h1 : X.1 = RX8) (dg : decode X.2.1 pc = .ok (.getfield 33, 3)) (hs : zSim X fr P (pc + 3) k) : zSim X fr P pc (xgfR 24 4 k) := sm_getfieldR (ci := 8) (n := 4) (C := RX8) (T := TX8) (N := 8) rfl rfl inz8 rfl (by decide) rfl (by rw [h1]; exact wd_622) rfl dg hs
theorem cr_X8_57 {X : zM} {fr frc pc mc ms : Nat} (h1 : X.1 = RX8) (hfr : frc + 1 ≤ fr) (dg : decode X.2.1 pc = .ok (.invokespecial 57, 3)) : zRun X (RX2, cX2_init, 5, none, "<init>") yX2_init fr frc pc 5 mc ms (fun ws As => ∃ (b : Nat) (As' : List Value) (q0 : Nat) (fs : List Value), As = .ref b :: As' ∧ ws[q0]? = some (b, .inr (2, fs))) := zrunI (n := 4) (ci := 2) wd_544 rfl wd_12 (by rw [h1]; exact wd_542) wd_543 rfl (by decide) hfr (by decide) dg
theorem pf_X8_60 [zGh] {d : Nat} {X : zM} {fr : Nat} {P : zP d} {pc : Nat} {k : zK d} (h1 : X.1 = RX8) (h2 : X.2.2.2.2 = "<init>") (dg : decode X.2.1 pc = .ok (.putfield 60, 3)) (hs : zSim X fr P (pc + 3) k) : zSim X fr P pc (xpfR 24 5 k) := sm_putR (ci := 8) (n := 5) (ty := tyX8 5) rfl (by decide) rfl rfl (zputF (C := RX8) (T := TX8) (N := 8) (ty0 := tyX8) (ty := tyX8 5) inz8 tyX8_ok nmX8 rfl (by decide) (by rw [h1]; exact wd_623) rfl rfl h2 (by rw [h1]; rfl) dg) hs
theorem gf_X8_60 [zGh] {d : Nat} {X : zM} {fr : Nat} {P : zP d} {pc : Nat} {k : zK d} (h1 : X.1 = RX8) (dg : decode X.2.1 pc = .ok (.getfield 60, 3)) (hs : zSim X fr P (pc + 3) k) : zSim X fr P pc (xgfR 24 5 k) := sm_getfieldR (ci := 8) (n := 5) (C := RX8) (T := TX8) (N := 8) rfl rfl inz8 rfl (by decide) rfl (by rw [h1]; exact wd_623) rfl dg hs
theorem cr_X8_64 {X : zM} {fr frc pc mc ms : Nat} (h1 : X.1 = RX8) (hfr : frc + 1 ≤ fr) (dg : decode X.2.1 pc = .ok (.invokevirtual 64, 3)) : zRun X (RX2, cX2_turnTo, 3, none, "turnTo") yX2_turnTo fr frc pc 3 mc ms (fun ws As => ∃ (b : Nat) (As' : List Value) (q0 : Nat) (fs : List Value), As = .ref b :: As' ∧ ws[q0]? = some (b, .inr (2, fs))) := zrunV (n := 2) (ci := 2) rfl rfl wd_650 wd_12 (by rw [h1]; exact wd_647) wd_648 wd_649 (by decide) hfr (by decide) dg
theorem cr_X8_68 {X : zM} {fr frc pc mc ms : Nat} (h1 : X.1 = RX8) (hfr : frc + 1 ≤ fr) (dg : decode X.2.1 pc = .ok (.invokestatic 68, 3)) : zRun X (RJ7, cJ7_fill_d0a16, 5, none, "fill") yJ7_fill_d0a16 fr frc pc 2 mc ms (fun _ _ => True) := zrunS (n := 2) wd_653 wd_5 (by rw [h1]; exact wd_651) wd_652 (by decide) hfr (by decide) dg
theorem cr_X8_78 {X : zM} {fr frc pc mc ms : Nat} (h1 : X.1 = RX8) (hfr : frc + 1 ≤ fr) (dg : decode X.2.1 pc = .ok (.invokevirtual 78, 3)) : zRun X (RX6, cX6_hasRoom, 2, (some .boolean), "hasRoom") yX6_hasRoom fr frc pc 2 mc ms (fun ws As => ∃ (b : Nat) (As' : List Value) (q0 : Nat) (fs : List Value), As = .ref b :: As' ∧ ws[q0]? = some (b, .inr (6, fs))) := zrunV (n := 1) (ci := 6) rfl rfl wd_661 wd_2 (by rw [h1]; exact wd_658) wd_659 wd_660 (by decide) hfr (by decide) dg
theorem cr_X8_82 {X : zM} {fr frc pc mc ms : Nat} (h1 : X.1 = RX8) (hfr : frc + 1 ≤ fr) (dg : decode X.2.1 pc = .ok (.invokevirtual 82, 3)) : zRun X (RX6, cX6_put, 3, none, "put") yX6_put fr frc pc 2 mc ms (fun ws As => ∃ (b : Nat) (As' : List Value) (q0 : Nat) (fs : List Value), As = .ref b :: As' ∧ ws[q0]? = some (b, .inr (6, fs))) := zrunV (n := 1) (ci := 6) rfl rfl wd_665 wd_2 (by rw [h1]; exact wd_662) wd_663 wd_664 (by decide) hfr (by decide) dg
theorem gf_X8_85 [zGh] {d : Nat} {X : zM} {fr : Nat} {P : zP d} {pc : Nat} {k : zK d} (h1 : X.1 = RX8) (dg : decode X.2.1 pc = .ok (.getfield 85, 3)) (hs : zSim X fr P (pc + 3) k) : zSim X fr P pc (xgfI 22 1 k) := sm_getfieldI (ci := 6) (n := 1) (C := RX6) (T := TX6) (N := 2) rfl rfl inz6 rfl (by decide) rfl (by rw [h1]; exact wd_38) rfl dg hs
theorem pf_X8_85 [zGh] {d : Nat} {X : zM} {fr : Nat} {P : zP d} {pc : Nat} {k : zK d} (h1 : X.1 = RX8) (dg : decode X.2.1 pc = .ok (.putfield 85, 3)) (hs : zSim X fr P (pc + 3) k) : zSim X fr P pc (xpfI 22 1 k) := sm_putI (ci := 6) (n := 1) (ty := tyX6 1) rfl (by decide) rfl rfl (zput (C := RX6) (T := TX6) (N := 2) (ty0 := tyX6) (ty := tyX6 1) inz6 tyX6_ok nmX6 rfl (by decide) (by rw [h1]; exact wd_38) rfl rfl dg) hs
theorem cr_X8_88 {X : zM} {fr frc pc mc ms : Nat} (h1 : X.1 = RX8) (hfr : frc + 1 ≤ fr) (dg : decode X.2.1 pc = .ok (.invokestatic 88, 3)) : zRun X (RX8, cX8_isSlot, 1, (some .boolean), "isSlot") yX8_isSlot fr frc pc 1 mc ms (fun _ _ => True) := zrunS (n := 1) wd_676 wd_1 (by rw [h1]; exact wd_674) wd_675 (by decide) hfr (by decide) dg
theorem cr_X8_100 {X : zM} {fr frc pc mc ms : Nat} (h1 : X.1 = RX8) (hfr : frc + 1 ≤ fr) (dg : decode X.2.1 pc = .ok (.invokevirtual 100, 3)) : zRun X (RX2, cX2_read, 1, (some .boolean), "read") yX2_read fr frc pc 1 mc ms (fun ws As => ∃ (b : Nat) (As' : List Value) (q0 : Nat) (fs : List Value), As = .ref b :: As' ∧ ws[q0]? = some (b, .inr (2, fs))) := zrunV (n := 0) (ci := 2) rfl rfl wd_684 wd_12 (by rw [h1]; exact wd_681) wd_682 wd_683 (by decide) hfr (by decide) dg
theorem gf_X8_104 [zGh] {d : Nat} {X : zM} {fr : Nat} {P : zP d} {pc : Nat} {k : zK d} (h1 : X.1 = RX8) (dg : decode X.2.1 pc = .ok (.getfield 104, 3)) (hs : zSim X fr P (pc + 3) k) : zSim X fr P pc (xgfR 18 1 k) := sm_getfieldR (ci := 2) (n := 1) (C := RX2) (T := TX2) (N := 15) rfl rfl inz2 rfl (by decide) rfl (by rw [h1]; exact wd_573) rfl dg hs
theorem gf_X8_91 [zGh] {d : Nat} {X : zM} {fr : Nat} {P : zP d} {pc : Nat} {k : zK d} (h1 : X.1 = RX8) (dg : decode X.2.1 pc = .ok (.getfield 91, 3)) (hs : zSim X fr P (pc + 3) k) : zSim X fr P pc (xgfR 18 0 k) := sm_getfieldR (ci := 2) (n := 0) (C := RX2) (T := TX2) (N := 15) rfl rfl inz2 rfl (by decide) rfl (by rw [h1]; exact wd_571) rfl dg hs
theorem cr_X8_95 {X : zM} {fr frc pc mc ms : Nat} (h1 : X.1 = RX8) (hfr : frc + 1 ≤ fr) (dg : decode X.2.1 pc = .ok (.invokevirtual 95, 3)) : zRun X (RX1, cX1_clear, 1, none, "clear") yX1_clear fr frc pc 1 mc ms (fun ws As => ∃ (b : Nat) (As' : List Value) (q0 : Nat) (fs : List Value), As = .ref b :: As' ∧ ws[q0]? = some (b, .inr (1, fs))) := zrunV (n := 0) (ci := 1) rfl rfl wd_680 wd_13 (by rw [h1]; exact wd_677) wd_678 wd_679 (by decide) hfr (by decide) dg
theorem gf_X8_119 [zGh] {d : Nat} {X : zM} {fr : Nat} {P : zP d} {pc : Nat} {k : zK d} (h1 : X.1 = RX8) (dg : decode X.2.1 pc = .ok (.getfield 119, 3)) (hs : zSim X fr P (pc + 3) k) : zSim X fr P pc (xgfI 17 3 k) := sm_getfieldI (ci := 1) (n := 3) (C := RX1) (T := TX1) (N := 4) rfl rfl inz1 rfl (by decide) rfl (by rw [h1]; exact wd_559) rfl dg hs
theorem gf_X8_122 [zGh] {d : Nat} {X : zM} {fr : Nat} {P : zP d} {pc : Nat} {k : zK d} (h1 : X.1 = RX8) (dg : decode X.2.1 pc = .ok (.getfield 122, 3)) (hs : zSim X fr P (pc + 3) k) : zSim X fr P pc (xgfR 17 2 k) := sm_getfieldR (ci := 1) (n := 2) (C := RX1) (T := TX1) (N := 4) rfl rfl inz1 rfl (by decide) rfl (by rw [h1]; exact wd_557) rfl dg hs
theorem gf_X8_113 [zGh] {d : Nat} {X : zM} {fr : Nat} {P : zP d} {pc : Nat} {k : zK d} (h1 : X.1 = RX8) (dg : decode X.2.1 pc = .ok (.getfield 113, 3)) (hs : zSim X fr P (pc + 3) k) : zSim X fr P pc (xgfI 17 0 k) := sm_getfieldI (ci := 1) (n := 0) (C := RX1) (T := TX1) (N := 4) rfl rfl inz1 rfl (by decide) rfl (by rw [h1]; exact wd_553) rfl dg hs
theorem gf_X8_116 [zGh] {d : Nat} {X : zM} {fr : Nat} {P : zP d} {pc : Nat} {k : zK d} (h1 : X.1 = RX8) (dg : decode X.2.1 pc = .ok (.getfield 116, 3)) (hs : zSim X fr P (pc + 3) k) : zSim X fr P pc (xgfI 17 1 k) := sm_getfieldI (ci := 1) (n := 1) (C := RX1) (T := TX1) (N := 4) rfl rfl inz1 rfl (by decide) rfl (by rw [h1]; exact wd_555) rfl dg hs
theorem gf_X8_129 [zGh] {d : Nat} {X : zM} {fr : Nat} {P : zP d} {pc : Nat} {k : zK d} (h1 : X.1 = RX8) (dg : decode X.2.1 pc = .ok (.getfield 129, 3)) (hs : zSim X fr P (pc + 3) k) : zSim X fr P pc (xgfR 23 3 k) := sm_getfieldR (ci := 7) (n := 3) (C := RX7) (T := TX7) (N := 14) rfl rfl inz7 rfl (by decide) rfl (by rw [h1]; exact wd_273) rfl dg hs
theorem gf_X8_138 [zGh] {d : Nat} {X : zM} {fr : Nat} {P : zP d} {pc : Nat} {k : zK d} (h1 : X.1 = RX8) (dg : decode X.2.1 pc = .ok (.getfield 138, 3)) (hs : zSim X fr P (pc + 3) k) : zSim X fr P pc (xgfR 20 2 k) := sm_getfieldR (ci := 4) (n := 2) (C := RX4) (T := TX4) (N := 16) rfl rfl inz4 rfl (by decide) rfl (by rw [h1]; exact wd_135) rfl dg hs
theorem cr_X8_141 {X : zM} {fr frc pc mc ms : Nat} (h1 : X.1 = RX8) (hfr : frc + 1 ≤ fr) (dg : decode X.2.1 pc = .ok (.invokestatic 141, 3)) : zRun X (RX8, cX8_partAt, 2, (some .int), "partAt") yX8_partAt fr frc pc 2 mc ms (fun _ _ => True) := zrunS (n := 2) wd_786 wd_1 (by rw [h1]; exact wd_784) wd_785 (by decide) hfr (by decide) dg
theorem gf_X8_133 [zGh] {d : Nat} {X : zM} {fr : Nat} {P : zP d} {pc : Nat} {k : zK d} (h1 : X.1 = RX8) (dg : decode X.2.1 pc = .ok (.getfield 133, 3)) (hs : zSim X fr P (pc + 3) k) : zSim X fr P pc (xgfI 20 1 k) := sm_getfieldI (ci := 4) (n := 1) (C := RX4) (T := TX4) (N := 16) rfl rfl inz4 rfl (by decide) rfl (by rw [h1]; exact wd_130) rfl dg hs
theorem cr_X8_148 {X : zM} {fr frc pc mc ms : Nat} (h1 : X.1 = RX8) (hfr : frc + 1 ≤ fr) (dg : decode X.2.1 pc = .ok (.invokestatic 148, 3)) : zRun X (RX8, cX8_bit, 1, (some .int), "bit") yX8_bit fr frc pc 1 mc ms (fun _ _ => True) := zrunS (n := 1) wd_338 wd_1 (by rw [h1]; exact wd_792) wd_337 (by decide) hfr (by decide) dg
theorem gf_X8_152 [zGh] {d : Nat} {X : zM} {fr : Nat} {P : zP d} {pc : Nat} {k : zK d} (h1 : X.1 = RX8) (dg : decode X.2.1 pc = .ok (.getfield 152, 3)) (hs : zSim X fr P (pc + 3) k) : zSim X fr P pc (xgfR 21 10 k) := sm_getfieldR (ci := 5) (n := 10) (C := RX5) (T := TX5) (N := 12) rfl rfl inz5 rfl (by decide) rfl (by rw [h1]; exact wd_509) rfl dg hs
theorem gf_X8_156 [zGh] {d : Nat} {X : zM} {fr : Nat} {P : zP d} {pc : Nat} {k : zK d} (h1 : X.1 = RX8) (dg : decode X.2.1 pc = .ok (.getfield 156, 3)) (hs : zSim X fr P (pc + 3) k) : zSim X fr P pc (xgfR 16 0 k) := sm_getfieldR (ci := 0) (n := 0) (C := RX0) (T := TX0) (N := 8) rfl rfl inz0 rfl (by decide) rfl (by rw [h1]; exact wd_445) rfl dg hs
theorem gf_X8_161 [zGh] {d : Nat} {X : zM} {fr : Nat} {P : zP d} {pc : Nat} {k : zK d} (h1 : X.1 = RX8) (dg : decode X.2.1 pc = .ok (.getfield 161, 3)) (hs : zSim X fr P (pc + 3) k) : zSim X fr P pc (xgfR 16 2 k) := sm_getfieldR (ci := 0) (n := 2) (C := RX0) (T := TX0) (N := 8) rfl rfl inz0 rfl (by decide) rfl (by rw [h1]; exact wd_449) rfl dg hs
theorem gf_X8_164 [zGh] {d : Nat} {X : zM} {fr : Nat} {P : zP d} {pc : Nat} {k : zK d} (h1 : X.1 = RX8) (dg : decode X.2.1 pc = .ok (.getfield 164, 3)) (hs : zSim X fr P (pc + 3) k) : zSim X fr P pc (xgfI 20 5 k) := sm_getfieldI (ci := 4) (n := 5) (C := RX4) (T := TX4) (N := 16) rfl rfl inz4 rfl (by decide) rfl (by rw [h1]; exact wd_142) rfl dg hs
theorem gf_X8_167 [zGh] {d : Nat} {X : zM} {fr : Nat} {P : zP d} {pc : Nat} {k : zK d} (h1 : X.1 = RX8) (dg : decode X.2.1 pc = .ok (.getfield 167, 3)) (hs : zSim X fr P (pc + 3) k) : zSim X fr P pc (xgfR 21 5 k) := sm_getfieldR (ci := 5) (n := 5) (C := RX5) (T := TX5) (N := 12) rfl rfl inz5 rfl (by decide) rfl (by rw [h1]; exact wd_497) rfl dg hs
theorem gf_X8_170 [zGh] {d : Nat} {X : zM} {fr : Nat} {P : zP d} {pc : Nat} {k : zK d} (h1 : X.1 = RX8) (dg : decode X.2.1 pc = .ok (.getfield 170, 3)) (hs : zSim X fr P (pc + 3) k) : zSim X fr P pc (xgfR 23 4 k) := sm_getfieldR (ci := 7) (n := 4) (C := RX7) (T := TX7) (N := 14) rfl rfl inz7 rfl (by decide) rfl (by rw [h1]; exact wd_275) rfl dg hs
theorem gf_X8_173 [zGh] {d : Nat} {X : zM} {fr : Nat} {P : zP d} {pc : Nat} {k : zK d} (h1 : X.1 = RX8) (dg : decode X.2.1 pc = .ok (.getfield 173, 3)) (hs : zSim X fr P (pc + 3) k) : zSim X fr P pc (xgfR 21 2 k) := sm_getfieldR (ci := 5) (n := 2) (C := RX5) (T := TX5) (N := 12) rfl rfl inz5 rfl (by decide) rfl (by rw [h1]; exact wd_491) rfl dg hs
theorem gf_X8_182 [zGh] {d : Nat} {X : zM} {fr : Nat} {P : zP d} {pc : Nat} {k : zK d} (h1 : X.1 = RX8) (dg : decode X.2.1 pc = .ok (.getfield 182, 3)) (hs : zSim X fr P (pc + 3) k) : zSim X fr P pc (xgfR 16 1 k) := sm_getfieldR (ci := 0) (n := 1) (C := RX0) (T := TX0) (N := 8) rfl rfl inz0 rfl (by decide) rfl (by rw [h1]; exact wd_447) rfl dg hs
theorem gf_X8_176 [zGh] {d : Nat} {X : zM} {fr : Nat} {P : zP d} {pc : Nat} {k : zK d} (h1 : X.1 = RX8) (dg : decode X.2.1 pc = .ok (.getfield 176, 3)) (hs : zSim X fr P (pc + 3) k) : zSim X fr P pc (xgfI 23 0 k) := sm_getfieldI (ci := 7) (n := 0) (C := RX7) (T := TX7) (N := 14) rfl rfl inz7 rfl (by decide) rfl (by rw [h1]; exact wd_262) rfl dg hs
theorem gf_X8_179 [zGh] {d : Nat} {X : zM} {fr : Nat} {P : zP d} {pc : Nat} {k : zK d} (h1 : X.1 = RX8) (dg : decode X.2.1 pc = .ok (.getfield 179, 3)) (hs : zSim X fr P (pc + 3) k) : zSim X fr P pc (xgfI 21 1 k) := sm_getfieldI (ci := 5) (n := 1) (C := RX5) (T := TX5) (N := 12) rfl rfl inz5 rfl (by decide) rfl (by rw [h1]; exact wd_489) rfl dg hs
theorem cr_X8_186 {X : zM} {fr frc pc mc ms : Nat} (h1 : X.1 = RX8) (hfr : frc + 1 ≤ fr) (dg : decode X.2.1 pc = .ok (.invokevirtual 186, 3)) : zRun X (RX4, cX4_hasCell, 3, (some .boolean), "hasCell") yX4_hasCell fr frc pc 3 mc ms (fun ws As => ∃ (b : Nat) (As' : List Value) (q0 : Nat) (fs : List Value), As = .ref b :: As' ∧ ws[q0]? = some (b, .inr (4, fs))) := zrunV (n := 2) (ci := 4) rfl rfl wd_804 wd_4 (by rw [h1]; exact wd_801) wd_802 wd_803 (by decide) hfr (by decide) dg
theorem cr_X8_190 {X : zM} {fr frc pc mc ms : Nat} (h1 : X.1 = RX8) (hfr : frc + 1 ≤ fr) (dg : decode X.2.1 pc = .ok (.invokevirtual 190, 3)) : zRun X (RX4, cX4_hookAt, 3, (some .int), "hookAt") yX4_hookAt fr frc pc 3 mc ms (fun ws As => ∃ (b : Nat) (As' : List Value) (q0 : Nat) (fs : List Value), As = .ref b :: As' ∧ ws[q0]? = some (b, .inr (4, fs))) := zrunV (n := 2) (ci := 4) rfl rfl wd_92 wd_4 (by rw [h1]; exact wd_805) wd_90 wd_91 (by decide) hfr (by decide) dg
theorem gf_X8_196 [zGh] {d : Nat} {X : zM} {fr : Nat} {P : zP d} {pc : Nat} {k : zK d} (h1 : X.1 = RX8) (dg : decode X.2.1 pc = .ok (.getfield 196, 3)) (hs : zSim X fr P (pc + 3) k) : zSim X fr P pc (xgfR 23 6 k) := sm_getfieldR (ci := 7) (n := 6) (C := RX7) (T := TX7) (N := 14) rfl rfl inz7 rfl (by decide) rfl (by rw [h1]; exact wd_280) rfl dg hs
theorem gf_X8_203 [zGh] {d : Nat} {X : zM} {fr : Nat} {P : zP d} {pc : Nat} {k : zK d} (h1 : X.1 = RX8) (dg : decode X.2.1 pc = .ok (.getfield 203, 3)) (hs : zSim X fr P (pc + 3) k) : zSim X fr P pc (xgfR 23 7 k) := sm_getfieldR (ci := 7) (n := 7) (C := RX7) (T := TX7) (N := 14) rfl rfl inz7 rfl (by decide) rfl (by rw [h1]; exact wd_283) rfl dg hs
theorem gf_X8_206 [zGh] {d : Nat} {X : zM} {fr : Nat} {P : zP d} {pc : Nat} {k : zK d} (h1 : X.1 = RX8) (dg : decode X.2.1 pc = .ok (.getfield 206, 3)) (hs : zSim X fr P (pc + 3) k) : zSim X fr P pc (xgfR 23 8 k) := sm_getfieldR (ci := 7) (n := 8) (C := RX7) (T := TX7) (N := 14) rfl rfl inz7 rfl (by decide) rfl (by rw [h1]; exact wd_285) rfl dg hs
theorem cr_X8_212 {X : zM} {fr frc pc mc ms : Nat} (h1 : X.1 = RX8) (hfr : frc + 1 ≤ fr) (dg : decode X.2.1 pc = .ok (.invokevirtual 212, 3)) : zRun X (RX8, cX8_isRegularPartition, 2, (some .boolean), "isRegularPartition") yX8_isRegularPartition fr frc pc 2 mc ms (fun ws As => ∃ (b : Nat) (As' : List Value) (q0 : Nat) (fs : List Value), As = .ref b :: As' ∧ ws[q0]? = some (b, .inr (8, fs))) := zrunV (n := 1) (ci := 8) rfl rfl wd_821 wd_1 (by rw [h1]; exact wd_818) wd_820 ws_46 (by decide) hfr (by decide) dg
theorem gf_X8_215 [zGh] {d : Nat} {X : zM} {fr : Nat} {P : zP d} {pc : Nat} {k : zK d} (h1 : X.1 = RX8) (dg : decode X.2.1 pc = .ok (.getfield 215, 3)) (hs : zSim X fr P (pc + 3) k) : zSim X fr P pc (xgfR 21 6 k) := sm_getfieldR (ci := 5) (n := 6) (C := RX5) (T := TX5) (N := 12) rfl rfl inz5 rfl (by decide) rfl (by rw [h1]; exact wd_499) rfl dg hs
theorem gf_X8_221 [zGh] {d : Nat} {X : zM} {fr : Nat} {P : zP d} {pc : Nat} {k : zK d} (h1 : X.1 = RX8) (dg : decode X.2.1 pc = .ok (.getfield 221, 3)) (hs : zSim X fr P (pc + 3) k) : zSim X fr P pc (xgfR 21 7 k) := sm_getfieldR (ci := 5) (n := 7) (C := RX5) (T := TX5) (N := 12) rfl rfl inz5 rfl (by decide) rfl (by rw [h1]; exact wd_502) rfl dg hs
theorem gf_X8_224 [zGh] {d : Nat} {X : zM} {fr : Nat} {P : zP d} {pc : Nat} {k : zK d} (h1 : X.1 = RX8) (dg : decode X.2.1 pc = .ok (.getfield 224, 3)) (hs : zSim X fr P (pc + 3) k) : zSim X fr P pc (xgfR 21 8 k) := sm_getfieldR (ci := 5) (n := 8) (C := RX5) (T := TX5) (N := 12) rfl rfl inz5 rfl (by decide) rfl (by rw [h1]; exact wd_504) rfl dg hs
theorem gf_X8_227 [zGh] {d : Nat} {X : zM} {fr : Nat} {P : zP d} {pc : Nat} {k : zK d} (h1 : X.1 = RX8) (dg : decode X.2.1 pc = .ok (.getfield 227, 3)) (hs : zSim X fr P (pc + 3) k) : zSim X fr P pc (xgfR 20 6 k) := sm_getfieldR (ci := 4) (n := 6) (C := RX4) (T := TX4) (N := 16) rfl rfl inz4 rfl (by decide) rfl (by rw [h1]; exact wd_144) rfl dg hs
theorem gf_X8_230 [zGh] {d : Nat} {X : zM} {fr : Nat} {P : zP d} {pc : Nat} {k : zK d} (h1 : X.1 = RX8) (dg : decode X.2.1 pc = .ok (.getfield 230, 3)) (hs : zSim X fr P (pc + 3) k) : zSim X fr P pc (xgfR 20 4 k) := sm_getfieldR (ci := 4) (n := 4) (C := RX4) (T := TX4) (N := 16) rfl rfl inz4 rfl (by decide) rfl (by rw [h1]; exact wd_139) rfl dg hs
theorem gf_X8_233 [zGh] {d : Nat} {X : zM} {fr : Nat} {P : zP d} {pc : Nat} {k : zK d} (h1 : X.1 = RX8) (dg : decode X.2.1 pc = .ok (.getfield 233, 3)) (hs : zSim X fr P (pc + 3) k) : zSim X fr P pc (xgfR 20 7 k) := sm_getfieldR (ci := 4) (n := 7) (C := RX4) (T := TX4) (N := 16) rfl rfl inz4 rfl (by decide) rfl (by rw [h1]; exact wd_147) rfl dg hs
theorem gf_X8_236 [zGh] {d : Nat} {X : zM} {fr : Nat} {P : zP d} {pc : Nat} {k : zK d} (h1 : X.1 = RX8) (dg : decode X.2.1 pc = .ok (.getfield 236, 3)) (hs : zSim X fr P (pc + 3) k) : zSim X fr P pc (xgfI 16 3 k) := sm_getfieldI (ci := 0) (n := 3) (C := RX0) (T := TX0) (N := 8) rfl rfl inz0 rfl (by decide) rfl (by rw [h1]; exact wd_453) rfl dg hs
theorem gf_X8_237 [zGh] {d : Nat} {X : zM} {fr : Nat} {P : zP d} {pc : Nat} {k : zK d} (h1 : X.1 = RX8) (dg : decode X.2.1 pc = .ok (.getfield 237, 3)) (hs : zSim X fr P (pc + 3) k) : zSim X fr P pc (xgfR 16 5 k) := sm_getfieldR (ci := 0) (n := 5) (C := RX0) (T := TX0) (N := 8) rfl rfl inz0 rfl (by decide) rfl (by rw [h1]; exact wd_457) rfl dg hs
theorem gf_X8_240 [zGh] {d : Nat} {X : zM} {fr : Nat} {P : zP d} {pc : Nat} {k : zK d} (h1 : X.1 = RX8) (dg : decode X.2.1 pc = .ok (.getfield 240, 3)) (hs : zSim X fr P (pc + 3) k) : zSim X fr P pc (xgfR 16 6 k) := sm_getfieldR (ci := 0) (n := 6) (C := RX0) (T := TX0) (N := 8) rfl rfl inz0 rfl (by decide) rfl (by rw [h1]; exact wd_459) rfl dg hs
theorem gf_X8_243 [zGh] {d : Nat} {X : zM} {fr : Nat} {P : zP d} {pc : Nat} {k : zK d} (h1 : X.1 = RX8) (dg : decode X.2.1 pc = .ok (.getfield 243, 3)) (hs : zSim X fr P (pc + 3) k) : zSim X fr P pc (xgfR 16 4 k) := sm_getfieldR (ci := 0) (n := 4) (C := RX0) (T := TX0) (N := 8) rfl rfl inz0 rfl (by decide) rfl (by rw [h1]; exact wd_455) rfl dg hs
theorem gf_X8_246 [zGh] {d : Nat} {X : zM} {fr : Nat} {P : zP d} {pc : Nat} {k : zK d} (h1 : X.1 = RX8) (dg : decode X.2.1 pc = .ok (.getfield 246, 3)) (hs : zSim X fr P (pc + 3) k) : zSim X fr P pc (xgfR 16 7 k) := sm_getfieldR (ci := 0) (n := 7) (C := RX0) (T := TX0) (N := 8) rfl rfl inz0 rfl (by decide) rfl (by rw [h1]; exact wd_461) rfl dg hs
theorem gf_X8_249 [zGh] {d : Nat} {X : zM} {fr : Nat} {P : zP d} {pc : Nat} {k : zK d} (h1 : X.1 = RX8) (dg : decode X.2.1 pc = .ok (.getfield 249, 3)) (hs : zSim X fr P (pc + 3) k) : zSim X fr P pc (xgfR 21 11 k) := sm_getfieldR (ci := 5) (n := 11) (C := RX5) (T := TX5) (N := 12) rfl rfl inz5 rfl (by decide) rfl (by rw [h1]; exact wd_511) rfl dg hs
theorem cr_X8_269 {X : zM} {fr frc pc mc ms : Nat} (h1 : X.1 = RX8) (hfr : frc + 1 ≤ fr) (dg : decode X.2.1 pc = .ok (.invokestatic 269, 3)) : zRun X (RX8, cX8_greatestDivisor, 11, (some .long), "greatestDivisor") yX8_greatestDivisor fr frc pc 2 mc ms (fun _ _ => True) := zrunS (n := 2) wd_216 wd_1 (by rw [h1]; exact wd_860) wd_215 (by decide) hfr (by decide) dg
theorem cr_X8_275 {X : zM} {fr frc pc mc ms : Nat} (h1 : X.1 = RX8) (hfr : frc + 1 ≤ fr) (dg : decode X.2.1 pc = .ok (.invokevirtual 275, 3)) : zRun X (RX8, cX8_isZeroOffRegular, 3, (some .boolean), "isZeroOffRegular") yX8_isZeroOffRegular fr frc pc 2 mc ms (fun ws As => ∃ (b : Nat) (As' : List Value) (q0 : Nat) (fs : List Value), As = .ref b :: As' ∧ ws[q0]? = some (b, .inr (8, fs))) := zrunV (n := 1) (ci := 8) rfl rfl wd_873 wd_1 (by rw [h1]; exact wd_870) wd_872 ws_48 (by decide) hfr (by decide) dg
theorem cr_X8_279 {X : zM} {fr frc pc mc ms : Nat} (h1 : X.1 = RX8) (hfr : frc + 1 ≤ fr) (dg : decode X.2.1 pc = .ok (.invokevirtual 279, 3)) : zRun X (RX8, cX8_isWhole, 7, (some .boolean), "isWhole") yX8_isWhole fr frc pc 4 mc ms (fun ws As => ∃ (b : Nat) (As' : List Value) (q0 : Nat) (fs : List Value), As = .ref b :: As' ∧ ws[q0]? = some (b, .inr (8, fs))) := zrunV (n := 3) (ci := 8) rfl rfl wd_877 wd_1 (by rw [h1]; exact wd_874) wd_876 ws_49 (by decide) hfr (by decide) dg
theorem cr_X8_287 {X : zM} {fr frc pc mc ms : Nat} (h1 : X.1 = RX8) (hfr : frc + 1 ≤ fr) (dg : decode X.2.1 pc = .ok (.invokevirtual 287, 3)) : zRun X (RX8, cX8_addTimes, 5, none, "addTimes") yX8_addTimes fr frc pc 3 mc ms (fun ws As => ∃ (b : Nat) (As' : List Value) (q0 : Nat) (fs : List Value), As = .ref b :: As' ∧ ws[q0]? = some (b, .inr (8, fs))) := zrunV (n := 2) (ci := 8) rfl rfl wd_889 wd_1 (by rw [h1]; exact wd_886) wd_888 ws_51 (by decide) hfr (by decide) dg
theorem gf_X8_291 [zGh] {d : Nat} {X : zM} {fr : Nat} {P : zP d} {pc : Nat} {k : zK d} (h1 : X.1 = RX8) (dg : decode X.2.1 pc = .ok (.getfield 291, 3)) (hs : zSim X fr P (pc + 3) k) : zSim X fr P pc (xgfI 21 3 k) := sm_getfieldI (ci := 5) (n := 3) (C := RX5) (T := TX5) (N := 12) rfl rfl inz5 rfl (by decide) rfl (by rw [h1]; exact wd_493) rfl dg hs
theorem cr_X8_294 {X : zM} {fr frc pc mc ms : Nat} (h1 : X.1 = RX8) (hfr : frc + 1 ≤ fr) (dg : decode X.2.1 pc = .ok (.invokevirtual 294, 3)) : zRun X (RX8, cX8_slotsInUse, 4, (some .int), "slotsInUse") yX8_slotsInUse fr frc pc 1 mc ms (fun ws As => ∃ (b : Nat) (As' : List Value) (q0 : Nat) (fs : List Value), As = .ref b :: As' ∧ ws[q0]? = some (b, .inr (8, fs))) := zrunV (n := 0) (ci := 8) rfl rfl wd_897 wd_1 (by rw [h1]; exact wd_894) wd_896 ws_52 (by decide) hfr (by decide) dg
theorem cr_X8_298 {X : zM} {fr frc pc mc ms : Nat} (h1 : X.1 = RX8) (hfr : frc + 1 ≤ fr) (dg : decode X.2.1 pc = .ok (.invokevirtual 298, 3)) : zRun X (RX0, cX0_withoutDefect, 3, (some .int), "withoutDefect") yX0_withoutDefect fr frc pc 1 mc ms (fun ws As => ∃ (b : Nat) (As' : List Value) (q0 : Nat) (fs : List Value), As = .ref b :: As' ∧ ws[q0]? = some (b, .inr (0, fs))) := zrunV (n := 0) (ci := 0) rfl rfl wd_901 wd_11 (by rw [h1]; exact wd_898) wd_899 wd_900 (by decide) hfr (by decide) dg
end
section
/-! the class, by program -/
abbrev X_J6_bitCount_0f7a4 : zM := (RJ6, cJ6_bitCount_0f7a4, 1, (some .int), "bitCount")
noncomputable def cJ6_bitCount_0f7a4_32 {d : Nat} (P : zP d) : zK d := (xbin zand (xist 0 (xild 0 (xild 0 (xpI 8 (xbin zushr (xbin zadd (xist 0 (xild 0 (xild 0 (xpI 16 (xbin zushr (xbin zadd (xist 0 (xild 0 (xpI 63 (xbin zand (xiret P))))))))))))))))))
set_option maxRecDepth 100000 in
set_option maxHeartbeats 4000000 in
theorem scJ6_bitCount_0f7a4_32 {d : Nat} [zGh] (P : zP d) : zSim X_J6_bitCount_0f7a4 1 P 32 (cJ6_bitCount_0f7a4_32 P) := by
  unfold cJ6_bitCount_0f7a4_32
  refine sm_iand (pc := 32) dJ6_bitCount_0f7a4_32 ?_
  refine sm_istore_n (pc := 33) (n := 0) dJ6_bitCount_0f7a4_33 rfl ?_
  refine sm_iload_n (pc := 34) (n := 0) dJ6_bitCount_0f7a4_34 rfl ?_
  refine sm_iload_n (pc := 35) (n := 0) dJ6_bitCount_0f7a4_35 rfl ?_
  refine sm_bipush (pc := 36) dJ6_bitCount_0f7a4_36 zc_b_8 ?_
  refine sm_iushr (pc := 38) dJ6_bitCount_0f7a4_38 ?_
  refine sm_iadd (pc := 39) dJ6_bitCount_0f7a4_39 ?_
  refine sm_istore_n (pc := 40) (n := 0) dJ6_bitCount_0f7a4_40 rfl ?_
  refine sm_iload_n (pc := 41) (n := 0) dJ6_bitCount_0f7a4_41 rfl ?_
  refine sm_iload_n (pc := 42) (n := 0) dJ6_bitCount_0f7a4_42 rfl ?_
  refine sm_bipush (pc := 43) dJ6_bitCount_0f7a4_43 zc_b_16 ?_
  refine sm_iushr (pc := 45) dJ6_bitCount_0f7a4_45 ?_
  refine sm_iadd (pc := 46) dJ6_bitCount_0f7a4_46 ?_
  refine sm_istore_n (pc := 47) (n := 0) dJ6_bitCount_0f7a4_47 rfl ?_
  refine sm_iload_n (pc := 48) (n := 0) dJ6_bitCount_0f7a4_48 rfl ?_
  refine sm_bipush (pc := 49) dJ6_bitCount_0f7a4_49 zc_b_63 ?_
  refine sm_iand (pc := 51) dJ6_bitCount_0f7a4_51 ?_
  exact sm_ireturn (pc := 52) dJ6_bitCount_0f7a4_52 rfl
noncomputable def b_J6_bitCount_0f7a4 {d : Nat} (P : zP d) : zK d := (xild 0 (xild 0 (xpI 1 (xbin zushr (xpI 1431655765 (xbin zand (xbin zsub (xist 0 (xild 0 (xpI 858993459 (xbin zand (xild 0 (xpI 2 (xbin zushr (xpI 858993459 (xbin zand (xbin zadd (xist 0 (xild 0 (xild 0 (xpI 4 (xbin zushr (xbin zadd (xpI 252645135 (cJ6_bitCount_0f7a4_32 P)))))))))))))))))))))))))
set_option maxRecDepth 100000 in
set_option maxHeartbeats 4000000 in
theorem s_J6_bitCount_0f7a4 {d : Nat} [zGh] (P : zP d) : zSim X_J6_bitCount_0f7a4 1 P 0 (b_J6_bitCount_0f7a4 P) := by
  unfold b_J6_bitCount_0f7a4
  refine sm_iload_n (pc := 0) (n := 0) dJ6_bitCount_0f7a4_0 rfl ?_
  refine sm_iload_n (pc := 1) (n := 0) dJ6_bitCount_0f7a4_1 rfl ?_
  refine sm_iconst (pc := 2) dJ6_bitCount_0f7a4_2 zc_i_1 ?_
  refine sm_iushr (pc := 3) dJ6_bitCount_0f7a4_3 ?_
  refine sm_ldcw (pc := 4) dJ6_bitCount_0f7a4_4 wd_120 zc_c_1431655765 ?_
  refine sm_iand (pc := 7) dJ6_bitCount_0f7a4_7 ?_
  refine sm_isub (pc := 8) dJ6_bitCount_0f7a4_8 ?_
  refine sm_istore_n (pc := 9) (n := 0) dJ6_bitCount_0f7a4_9 rfl ?_
  refine sm_iload_n (pc := 10) (n := 0) dJ6_bitCount_0f7a4_10 rfl ?_
  refine sm_ldcw (pc := 11) dJ6_bitCount_0f7a4_11 wd_121 zc_c_858993459 ?_
  refine sm_iand (pc := 14) dJ6_bitCount_0f7a4_14 ?_
  refine sm_iload_n (pc := 15) (n := 0) dJ6_bitCount_0f7a4_15 rfl ?_
  refine sm_iconst (pc := 16) dJ6_bitCount_0f7a4_16 zc_i_2 ?_
  refine sm_iushr (pc := 17) dJ6_bitCount_0f7a4_17 ?_
  refine sm_ldcw (pc := 18) dJ6_bitCount_0f7a4_18 wd_121 zc_c_858993459 ?_
  refine sm_iand (pc := 21) dJ6_bitCount_0f7a4_21 ?_
  refine sm_iadd (pc := 22) dJ6_bitCount_0f7a4_22 ?_
  refine sm_istore_n (pc := 23) (n := 0) dJ6_bitCount_0f7a4_23 rfl ?_
  refine sm_iload_n (pc := 24) (n := 0) dJ6_bitCount_0f7a4_24 rfl ?_
  refine sm_iload_n (pc := 25) (n := 0) dJ6_bitCount_0f7a4_25 rfl ?_
  refine sm_iconst (pc := 26) dJ6_bitCount_0f7a4_26 zc_i_4 ?_
  refine sm_iushr (pc := 27) dJ6_bitCount_0f7a4_27 ?_
  refine sm_iadd (pc := 28) dJ6_bitCount_0f7a4_28 ?_
  refine sm_ldcw (pc := 29) dJ6_bitCount_0f7a4_29 wd_122 zc_c_252645135 ?_
  exact scJ6_bitCount_0f7a4_32 P
noncomputable def f_J6_bitCount_0f7a4 {d : Nat} : List zV → zH d → zP d → Bool := zfn 1 b_J6_bitCount_0f7a4
theorem m_J6_bitCount_0f7a4 {d : Nat} : zMet (d := d) X_J6_bitCount_0f7a4 yJ6_bitCount_0f7a4 1 f_J6_bitCount_0f7a4 := zmet_mk (X := X_J6_bitCount_0f7a4) (by decide) rfl rfl s_J6_bitCount_0f7a4

abbrev X_J7_fill_d0a16 : zM := (RJ7, cJ7_fill_d0a16, 5, none, "fill")
noncomputable def lJ7_fill_d0a16_6 {d : Nat} (P : zP d) (r6 : zK d) : zK d := (xild 3 (xild 4 (xcmp tge (xvret P) (xald 0 (xild 3 (xlld 1 (xlas (xinc 3 1 r6))))))))
set_option maxRecDepth 100000 in
set_option maxHeartbeats 4000000 in
theorem slJ7_fill_d0a16_6 {d : Nat} [zGh] (P : zP d) (r6 : zK d) (hr6 : zSim X_J7_fill_d0a16 1 P 6 r6) : zSim X_J7_fill_d0a16 1 P 6 (lJ7_fill_d0a16_6 P r6) := by
  unfold lJ7_fill_d0a16_6
  refine sm_iload_n (pc := 6) (n := 3) dJ7_fill_d0a16_6 rfl ?_
  refine sm_iload (pc := 7) (n := 4) dJ7_fill_d0a16_7 ?_
  refine sm_icmp_ge (pc := 9) (tgt := 22) dJ7_fill_d0a16_9 (by decide) ?_ ?_
  · skip
    exact sm_vreturn (pc := 22) dJ7_fill_d0a16_22 rfl
  · skip
    refine sm_aload_n (pc := 12) (n := 0) dJ7_fill_d0a16_12 rfl ?_
    refine sm_iload_n (pc := 13) (n := 3) dJ7_fill_d0a16_13 rfl ?_
    refine sm_lload_n (pc := 14) (n := 1) dJ7_fill_d0a16_14 rfl ?_
    refine sm_lastore (pc := 15) dJ7_fill_d0a16_15 ?_
    refine sm_iinc (pc := 16) (n := 3) dJ7_fill_d0a16_16 zc_i_1 ?_
    refine sm_goto (pc := 19) (tgt := 6) dJ7_fill_d0a16_19 (by decide) ?_
    exact hr6
noncomputable def b_J7_fill_d0a16 {d : Nat} (P : zP d) : zK d := (xpI 0 (xist 3 (xald 0 (xlen (xist 4 (xloop (fun r6 => (lJ7_fill_d0a16_6 P r6)) 100000))))))
set_option maxRecDepth 100000 in
set_option maxHeartbeats 4000000 in
theorem s_J7_fill_d0a16 {d : Nat} [zGh] (P : zP d) : zSim X_J7_fill_d0a16 1 P 0 (b_J7_fill_d0a16 P) := by
  unfold b_J7_fill_d0a16
  refine sm_iconst (pc := 0) dJ7_fill_d0a16_0 zc_i_0 ?_
  refine sm_istore_n (pc := 1) (n := 3) dJ7_fill_d0a16_1 rfl ?_
  refine sm_aload_n (pc := 2) (n := 0) dJ7_fill_d0a16_2 rfl ?_
  refine sm_arraylength (pc := 3) dJ7_fill_d0a16_3 ?_
  refine sm_istore (pc := 4) (n := 4) dJ7_fill_d0a16_4 ?_
  exact sm_loop (fun r6 hr6 => slJ7_fill_d0a16_6 P r6 hr6) _
noncomputable def f_J7_fill_d0a16 {d : Nat} : List zV → zH d → zP d → Bool := zfn 5 b_J7_fill_d0a16
theorem m_J7_fill_d0a16 {d : Nat} : zMet (d := d) X_J7_fill_d0a16 yJ7_fill_d0a16 1 f_J7_fill_d0a16 := zmet_mk (X := X_J7_fill_d0a16) (by decide) rfl rfl s_J7_fill_d0a16

abbrev X_J7_fill_53178 : zM := (RJ7, cJ7_fill_53178, 4, none, "fill")
noncomputable def lJ7_fill_53178_5 {d : Nat} (P : zP d) (r5 : zK d) : zK d := (xild 2 (xild 3 (xcmp tge (xvret P) (xald 0 (xild 2 (xild 1 (xast1 0 (fun v => v) (xinc 2 1 r5))))))))
set_option maxRecDepth 100000 in
set_option maxHeartbeats 4000000 in
theorem slJ7_fill_53178_5 {d : Nat} [zGh] (P : zP d) (r5 : zK d) (hr5 : zSim X_J7_fill_53178 1 P 5 r5) : zSim X_J7_fill_53178 1 P 5 (lJ7_fill_53178_5 P r5) := by
  unfold lJ7_fill_53178_5
  refine sm_iload_n (pc := 5) (n := 2) dJ7_fill_53178_5 rfl ?_
  refine sm_iload_n (pc := 6) (n := 3) dJ7_fill_53178_6 rfl ?_
  refine sm_icmp_ge (pc := 7) (tgt := 20) dJ7_fill_53178_7 (by decide) ?_ ?_
  · skip
    exact sm_vreturn (pc := 20) dJ7_fill_53178_20 rfl
  · skip
    refine sm_aload_n (pc := 10) (n := 0) dJ7_fill_53178_10 rfl ?_
    refine sm_iload_n (pc := 11) (n := 2) dJ7_fill_53178_11 rfl ?_
    refine sm_iload_n (pc := 12) (n := 1) dJ7_fill_53178_12 rfl ?_
    refine sm_iastore (pc := 13) dJ7_fill_53178_13 ?_
    refine sm_iinc (pc := 14) (n := 2) dJ7_fill_53178_14 zc_i_1 ?_
    refine sm_goto (pc := 17) (tgt := 5) dJ7_fill_53178_17 (by decide) ?_
    exact hr5
noncomputable def b_J7_fill_53178 {d : Nat} (P : zP d) : zK d := (xpI 0 (xist 2 (xald 0 (xlen (xist 3 (xloop (fun r5 => (lJ7_fill_53178_5 P r5)) 100000))))))
set_option maxRecDepth 100000 in
set_option maxHeartbeats 4000000 in
theorem s_J7_fill_53178 {d : Nat} [zGh] (P : zP d) : zSim X_J7_fill_53178 1 P 0 (b_J7_fill_53178 P) := by
  unfold b_J7_fill_53178
  refine sm_iconst (pc := 0) dJ7_fill_53178_0 zc_i_0 ?_
  refine sm_istore_n (pc := 1) (n := 2) dJ7_fill_53178_1 rfl ?_
  refine sm_aload_n (pc := 2) (n := 0) dJ7_fill_53178_2 rfl ?_
  refine sm_arraylength (pc := 3) dJ7_fill_53178_3 ?_
  refine sm_istore_n (pc := 4) (n := 3) dJ7_fill_53178_4 rfl ?_
  exact sm_loop (fun r5 hr5 => slJ7_fill_53178_5 P r5 hr5) _
noncomputable def f_J7_fill_53178 {d : Nat} : List zV → zH d → zP d → Bool := zfn 4 b_J7_fill_53178
theorem m_J7_fill_53178 {d : Nat} : zMet (d := d) X_J7_fill_53178 yJ7_fill_53178 1 f_J7_fill_53178 := zmet_mk (X := X_J7_fill_53178) (by decide) rfl rfl s_J7_fill_53178

abbrev X_J7_copyOf_59c91 : zM := (RJ7, cJ7_copyOf_59c91, 3, (some (.array .int)), "copyOf")
noncomputable def b_J7_copyOf_59c91 {d : Nat} (P : zP d) : zK d := (xild 1 (xald 0 (xlen (xcmp Nat.beq (xald 0 (xcln (xcast (xaret P)))) (xild 1 (xnwa 0 (xast 2 (xald 0 (xpI 0 (xald 2 (xpI 0 (xald 0 (xlen (xild 1 (xmm zmin (xcpy 0 40 (xald 2 (xaret P))))))))))))))))))
set_option maxRecDepth 100000 in
set_option maxHeartbeats 4000000 in
theorem s_J7_copyOf_59c91 {d : Nat} [zGh] (P : zP d) : zSim X_J7_copyOf_59c91 1 P 0 (b_J7_copyOf_59c91 P) := by
  unfold b_J7_copyOf_59c91
  refine sm_iload_n (pc := 0) (n := 1) dJ7_copyOf_59c91_0 rfl ?_
  refine sm_aload_n (pc := 1) (n := 0) dJ7_copyOf_59c91_1 rfl ?_
  refine sm_arraylength (pc := 2) dJ7_copyOf_59c91_2 ?_
  refine sm_icmp_ne (pc := 3) (tgt := 14) dJ7_copyOf_59c91_3 (by decide) ?_ ?_
  · skip
    refine sm_iload_n (pc := 14) (n := 1) dJ7_copyOf_59c91_14 rfl ?_
    refine sm_newI (pc := 15) dJ7_copyOf_59c91_15 wd_46 ?_
    refine sm_astore_n (pc := 17) (n := 2) dJ7_copyOf_59c91_17 rfl ?_
    refine sm_aload_n (pc := 18) (n := 0) dJ7_copyOf_59c91_18 rfl ?_
    refine sm_iconst (pc := 19) dJ7_copyOf_59c91_19 zc_i_0 ?_
    refine sm_aload_n (pc := 20) (n := 2) dJ7_copyOf_59c91_20 rfl ?_
    refine sm_iconst (pc := 21) dJ7_copyOf_59c91_21 zc_i_0 ?_
    refine sm_aload_n (pc := 22) (n := 0) dJ7_copyOf_59c91_22 rfl ?_
    refine sm_arraylength (pc := 23) dJ7_copyOf_59c91_23 ?_
    refine sm_iload_n (pc := 24) (n := 1) dJ7_copyOf_59c91_24 rfl ?_
    refine sm_mmin (pc := 25) wd_75 wd_76 wd_6 wd_77 (by decide) dJ7_copyOf_59c91_25 ?_
    refine sm_copyI (pc := 28) wd_78 wd_80 wd_79 wd_7 (by decide) dJ7_copyOf_59c91_28 ?_
    refine sm_aload_n (pc := 31) (n := 2) dJ7_copyOf_59c91_31 rfl ?_
    exact sm_areturn (pc := 32) dJ7_copyOf_59c91_32 rfl (by first | exact Or.inl ⟨_, rfl⟩ | exact Or.inr ⟨_, rfl⟩)
  · skip
    refine sm_aload_n (pc := 6) (n := 0) dJ7_copyOf_59c91_6 rfl ?_
    refine sm_clone (pc := 7) wd_68 wd_69 wd_70 wd_71 wd_72 (by decide) dJ7_copyOf_59c91_7 ?_
    refine sm_castI (pc := 10) wd_74 dJ7_copyOf_59c91_10 ?_
    exact sm_areturn (pc := 13) dJ7_copyOf_59c91_13 rfl (by first | exact Or.inl ⟨_, rfl⟩ | exact Or.inr ⟨_, rfl⟩)
noncomputable def f_J7_copyOf_59c91 {d : Nat} : List zV → zH d → zP d → Bool := zfn 3 b_J7_copyOf_59c91
theorem m_J7_copyOf_59c91 {d : Nat} : zMet (d := d) X_J7_copyOf_59c91 yJ7_copyOf_59c91 1 f_J7_copyOf_59c91 := zmet_mk (X := X_J7_copyOf_59c91) (by decide) rfl rfl s_J7_copyOf_59c91

abbrev X_X6_init : zM := (RX6, cX6_init, 1, none, "<init>")
noncomputable def b_X6_init {d : Nat} (P : zP d) : zK d := (xald 0 (xobj (xald 0 (xpI 200 (xnwa 0 (xpfR 22 0 (xvret P)))))))
set_option maxRecDepth 100000 in
set_option maxHeartbeats 4000000 in
theorem s_X6_init {d : Nat} [zGh] (P : zP d) : zSim X_X6_init 1 P 0 (b_X6_init P) := by
  unfold b_X6_init
  refine sm_aload_n (pc := 0) (n := 0) dX6_init_0 rfl ?_
  refine sm_objinit (pc := 1) wd_34 wd_21 wd_22 (by decide) dX6_init_1 ?_
  refine sm_aload_n (pc := 4) (n := 0) dX6_init_4 rfl ?_
  refine sm_sipush (pc := 5) dX6_init_5 zc_s_200 ?_
  refine sm_newI (pc := 8) dX6_init_8 wd_46 ?_
  refine pf_X6_9 (pc := 10) rfl rfl dX6_init_10 ?_
  exact sm_vreturn (pc := 13) dX6_init_13 rfl
noncomputable def f_X6_init {d : Nat} : List zV → zH d → zP d → Bool := zfn 1 b_X6_init
theorem m_X6_init {d : Nat} : zMet (d := d) X_X6_init yX6_init 1 f_X6_init := zmet_mk (X := X_X6_init) (by decide) rfl rfl s_X6_init

abbrev X_X6_hasRoom : zM := (RX6, cX6_hasRoom, 2, (some .boolean), "hasRoom")
noncomputable def bX6_hasRoom_17 {d : Nat} (P : zP d) : zK d := (xzret P)
set_option maxRecDepth 100000 in
set_option maxHeartbeats 4000000 in
theorem sbX6_hasRoom_17 {d : Nat} [zGh] (P : zP d) : zSim X_X6_hasRoom 1 P 17 (bX6_hasRoom_17 P) := by
  unfold bX6_hasRoom_17
  exact sm_zreturn (pc := 17) dX6_hasRoom_17 rfl
noncomputable def b_X6_hasRoom {d : Nat} (P : zP d) : zK d := (xald 0 (xgfI 22 1 (xild 1 (xbin zadd (xpI 200 (xjoin (bX6_hasRoom_17 P) (fun j17 => (xcmp tle (xpI 1 j17) (xpI 0 j17)))))))))
set_option maxRecDepth 100000 in
set_option maxHeartbeats 4000000 in
theorem s_X6_hasRoom {d : Nat} [zGh] (P : zP d) : zSim X_X6_hasRoom 1 P 0 (b_X6_hasRoom P) := by
  unfold b_X6_hasRoom
  refine sm_aload_n (pc := 0) (n := 0) dX6_hasRoom_0 rfl ?_
  refine gf_X6_13 (pc := 1) rfl dX6_hasRoom_1 ?_
  refine sm_iload_n (pc := 4) (n := 1) dX6_hasRoom_4 rfl ?_
  refine sm_iadd (pc := 5) dX6_hasRoom_5 ?_
  refine sm_sipush (pc := 6) dX6_hasRoom_6 zc_s_200 ?_
  refine sm_join (pc := 9) (pc' := 17) (sbX6_hasRoom_17 P) (fun j17 hj17 => ?_)
  refine sm_icmp_gt (pc := 9) (tgt := 16) dX6_hasRoom_9 (by decide) ?_ ?_
  · skip
    refine sm_iconst (pc := 16) dX6_hasRoom_16 zc_i_0 ?_
    exact hj17
  · skip
    refine sm_iconst (pc := 12) dX6_hasRoom_12 zc_i_1 ?_
    refine sm_goto (pc := 13) (tgt := 17) dX6_hasRoom_13 (by decide) ?_
    exact hj17
noncomputable def f_X6_hasRoom {d : Nat} : List zV → zH d → zP d → Bool := zfn 2 b_X6_hasRoom
theorem m_X6_hasRoom {d : Nat} : zMet (d := d) X_X6_hasRoom yX6_hasRoom 1 f_X6_hasRoom := zmet_mk (X := X_X6_hasRoom) (by decide) rfl rfl s_X6_hasRoom

abbrev X_X6_put : zM := (RX6, cX6_put, 3, none, "put")
noncomputable def bX6_put_49 {d : Nat} (P : zP d) : zK d := (xvret P)
set_option maxRecDepth 100000 in
set_option maxHeartbeats 4000000 in
theorem sbX6_put_49 {d : Nat} [zGh] (P : zP d) : zSim X_X6_put 1 P 49 (bX6_put_49 P) := by
  unfold bX6_put_49
  exact sm_vreturn (pc := 49) dX6_put_49 rfl
noncomputable def lX6_put_3 {d : Nat} (P : zP d) (r3 : zK d) : zK d := (xild 2 (xjoin (bX6_put_49 P) (fun j49 => (xif0 t0ge (xald 0 (xgfI 22 1 (xpI 200 (xcmp tge j49 (xald 0 (xgfR 22 0 (xald 0 (xgfI 22 1 (xild 1 (xild 2 (xbin zshr (xpI 255 (xbin zand (xast1 0 (fun v => v) (xald 0 (xdup (xgfI 22 1 (xpI 1 (xbin zadd (xpfI 22 1 (xinc 2 4294967288 r3))))))))))))))))))))) j49))))
set_option maxRecDepth 100000 in
set_option maxHeartbeats 4000000 in
theorem slX6_put_3 {d : Nat} [zGh] (P : zP d) (r3 : zK d) (hr3 : zSim X_X6_put 1 P 3 r3) : zSim X_X6_put 1 P 3 (lX6_put_3 P r3) := by
  unfold lX6_put_3
  refine sm_iload_n (pc := 3) (n := 2) dX6_put_3 rfl ?_
  refine sm_join (pc := 4) (pc' := 49) (sbX6_put_49 P) (fun j49 hj49 => ?_)
  refine sm_if_lt (pc := 4) (tgt := 49) dX6_put_4 (by decide) ?_ ?_
  · skip
    exact hj49
  · skip
    refine sm_aload_n (pc := 7) (n := 0) dX6_put_7 rfl ?_
    refine gf_X6_13 (pc := 8) rfl dX6_put_8 ?_
    refine sm_sipush (pc := 11) dX6_put_11 zc_s_200 ?_
    refine sm_icmp_ge (pc := 14) (tgt := 49) dX6_put_14 (by decide) ?_ ?_
    · skip
      exact hj49
    · skip
      refine sm_aload_n (pc := 17) (n := 0) dX6_put_17 rfl ?_
      refine gf_X6_9 (pc := 18) rfl dX6_put_18 ?_
      refine sm_aload_n (pc := 21) (n := 0) dX6_put_21 rfl ?_
      refine gf_X6_13 (pc := 22) rfl dX6_put_22 ?_
      refine sm_iload_n (pc := 25) (n := 1) dX6_put_25 rfl ?_
      refine sm_iload_n (pc := 26) (n := 2) dX6_put_26 rfl ?_
      refine sm_ishr (pc := 27) dX6_put_27 ?_
      refine sm_sipush (pc := 28) dX6_put_28 zc_s_255 ?_
      refine sm_iand (pc := 31) dX6_put_31 ?_
      refine sm_iastore (pc := 32) dX6_put_32 ?_
      refine sm_aload_n (pc := 33) (n := 0) dX6_put_33 rfl ?_
      refine sm_dup (pc := 34) dX6_put_34 ?_
      refine gf_X6_13 (pc := 35) rfl dX6_put_35 ?_
      refine sm_iconst (pc := 38) dX6_put_38 zc_i_1 ?_
      refine sm_iadd (pc := 39) dX6_put_39 ?_
      refine pf_X6_13 (pc := 40) rfl dX6_put_40 ?_
      refine sm_iinc (pc := 43) (n := 2) dX6_put_43 zc_i_m8 ?_
      refine sm_goto (pc := 46) (tgt := 3) dX6_put_46 (by decide) ?_
      exact hr3
noncomputable def b_X6_put {d : Nat} (P : zP d) : zK d := (xpI 24 (xist 2 (xloop (fun r3 => (lX6_put_3 P r3)) 100000)))
set_option maxRecDepth 100000 in
set_option maxHeartbeats 4000000 in
theorem s_X6_put {d : Nat} [zGh] (P : zP d) : zSim X_X6_put 1 P 0 (b_X6_put P) := by
  unfold b_X6_put
  refine sm_bipush (pc := 0) dX6_put_0 zc_b_24 ?_
  refine sm_istore_n (pc := 2) (n := 2) dX6_put_2 rfl ?_
  exact sm_loop (fun r3 hr3 => slX6_put_3 P r3 hr3) _
noncomputable def f_X6_put {d : Nat} : List zV → zH d → zP d → Bool := zfn 3 b_X6_put
theorem m_X6_put {d : Nat} : zMet (d := d) X_X6_put yX6_put 1 f_X6_put := zmet_mk (X := X_X6_put) (by decide) rfl rfl s_X6_put

abbrev X_X1_init : zM := (RX1, cX1_init, 1, none, "<init>")
noncomputable def b_X1_init {d : Nat} (P : zP d) : zK d := (xald 0 (xobj (xald 0 (xpI 4294967295 (xpfI 17 1 (xald 0 (xpI 15 (xnwa 0 (xpfR 17 2 (xvret P))))))))))
set_option maxRecDepth 100000 in
set_option maxHeartbeats 4000000 in
theorem s_X1_init {d : Nat} [zGh] (P : zP d) : zSim X_X1_init 1 P 0 (b_X1_init P) := by
  unfold b_X1_init
  refine sm_aload_n (pc := 0) (n := 0) dX1_init_0 rfl ?_
  refine sm_objinit (pc := 1) wd_551 wd_21 wd_22 (by decide) dX1_init_1 ?_
  refine sm_aload_n (pc := 4) (n := 0) dX1_init_4 rfl ?_
  refine sm_iconst (pc := 5) dX1_init_5 zc_i_m1 ?_
  refine pf_X1_9 (pc := 6) rfl dX1_init_6 ?_
  refine sm_aload_n (pc := 9) (n := 0) dX1_init_9 rfl ?_
  refine sm_bipush (pc := 10) dX1_init_10 zc_b_15 ?_
  refine sm_newI (pc := 12) dX1_init_12 wd_46 ?_
  refine pf_X1_17 (pc := 14) rfl rfl dX1_init_14 ?_
  exact sm_vreturn (pc := 17) dX1_init_17 rfl
noncomputable def f_X1_init {d : Nat} : List zV → zH d → zP d → Bool := zfn 1 b_X1_init
theorem m_X1_init {d : Nat} : zMet (d := d) X_X1_init yX1_init 1 f_X1_init := zmet_mk (X := X_X1_init) (by decide) rfl rfl s_X1_init

abbrev X_X1_clear : zM := (RX1, cX1_clear, 1, none, "clear")
noncomputable def b_X1_clear {d : Nat} (P : zP d) : zK d := (xald 0 (xpI 0 (xpfI 17 0 (xald 0 (xpI 4294967295 (xpfI 17 1 (xald 0 (xpI 0 (xpfI 17 3 (xvret P))))))))))
set_option maxRecDepth 100000 in
set_option maxHeartbeats 4000000 in
theorem s_X1_clear {d : Nat} [zGh] (P : zP d) : zSim X_X1_clear 1 P 0 (b_X1_clear P) := by
  unfold b_X1_clear
  refine sm_aload_n (pc := 0) (n := 0) dX1_clear_0 rfl ?_
  refine sm_iconst (pc := 1) dX1_clear_1 zc_i_0 ?_
  refine pf_X1_21 (pc := 2) rfl dX1_clear_2 ?_
  refine sm_aload_n (pc := 5) (n := 0) dX1_clear_5 rfl ?_
  refine sm_iconst (pc := 6) dX1_clear_6 zc_i_m1 ?_
  refine pf_X1_9 (pc := 7) rfl dX1_clear_7 ?_
  refine sm_aload_n (pc := 10) (n := 0) dX1_clear_10 rfl ?_
  refine sm_iconst (pc := 11) dX1_clear_11 zc_i_0 ?_
  refine pf_X1_24 (pc := 12) rfl dX1_clear_12 ?_
  exact sm_vreturn (pc := 15) dX1_clear_15 rfl
noncomputable def f_X1_clear {d : Nat} : List zV → zH d → zP d → Bool := zfn 1 b_X1_clear
theorem m_X1_clear {d : Nat} : zMet (d := d) X_X1_clear yX1_clear 1 f_X1_clear := zmet_mk (X := X_X1_clear) (by decide) rfl rfl s_X1_clear

abbrev X_X1_tell : zM := (RX1, cX1_tell, 3, none, "tell")
noncomputable def b_X1_tell {d : Nat} (P : zP d) : zK d := (xald 0 (xild 1 (xpfI 17 0 (xald 0 (xild 2 (xpfI 17 1 (xald 0 (xpI 0 (xpfI 17 3 (xvret P))))))))))
set_option maxRecDepth 100000 in
set_option maxHeartbeats 4000000 in
theorem s_X1_tell {d : Nat} [zGh] (P : zP d) : zSim X_X1_tell 1 P 0 (b_X1_tell P) := by
  unfold b_X1_tell
  refine sm_aload_n (pc := 0) (n := 0) dX1_tell_0 rfl ?_
  refine sm_iload_n (pc := 1) (n := 1) dX1_tell_1 rfl ?_
  refine pf_X1_21 (pc := 2) rfl dX1_tell_2 ?_
  refine sm_aload_n (pc := 5) (n := 0) dX1_tell_5 rfl ?_
  refine sm_iload_n (pc := 6) (n := 2) dX1_tell_6 rfl ?_
  refine pf_X1_9 (pc := 7) rfl dX1_tell_7 ?_
  refine sm_aload_n (pc := 10) (n := 0) dX1_tell_10 rfl ?_
  refine sm_iconst (pc := 11) dX1_tell_11 zc_i_0 ?_
  refine pf_X1_24 (pc := 12) rfl dX1_tell_12 ?_
  exact sm_vreturn (pc := 15) dX1_tell_15 rfl
noncomputable def f_X1_tell {d : Nat} : List zV → zH d → zP d → Bool := zfn 3 b_X1_tell
theorem m_X1_tell {d : Nat} : zMet (d := d) X_X1_tell yX1_tell 1 f_X1_tell := zmet_mk (X := X_X1_tell) (by decide) rfl rfl s_X1_tell

abbrev X_X1_addWithin : zM := (RX1, cX1_addWithin, 2, none, "addWithin")
noncomputable def bX1_addWithin_32 {d : Nat} (P : zP d) : zK d := (xvret P)
set_option maxRecDepth 100000 in
set_option maxHeartbeats 4000000 in
theorem sbX1_addWithin_32 {d : Nat} [zGh] (P : zP d) : zSim X_X1_addWithin 1 P 32 (bX1_addWithin_32 P) := by
  unfold bX1_addWithin_32
  exact sm_vreturn (pc := 32) dX1_addWithin_32 rfl
noncomputable def b_X1_addWithin {d : Nat} (P : zP d) : zK d := (xald 0 (xgfI 17 3 (xald 0 (xgfR 17 2 (xlen (xjoin (bX1_addWithin_32 P) (fun j32 => (xcmp tge j32 (xald 0 (xgfR 17 2 (xald 0 (xgfI 17 3 (xild 1 (xast1 0 (fun v => v) (xald 0 (xdup (xgfI 17 3 (xpI 1 (xbin zadd (xpfI 17 3 j32))))))))))))))))))))
set_option maxRecDepth 100000 in
set_option maxHeartbeats 4000000 in
theorem s_X1_addWithin {d : Nat} [zGh] (P : zP d) : zSim X_X1_addWithin 1 P 0 (b_X1_addWithin P) := by
  unfold b_X1_addWithin
  refine sm_aload_n (pc := 0) (n := 0) dX1_addWithin_0 rfl ?_
  refine gf_X1_24 (pc := 1) rfl dX1_addWithin_1 ?_
  refine sm_aload_n (pc := 4) (n := 0) dX1_addWithin_4 rfl ?_
  refine gf_X1_17 (pc := 5) rfl dX1_addWithin_5 ?_
  refine sm_arraylength (pc := 8) dX1_addWithin_8 ?_
  refine sm_join (pc := 9) (pc' := 32) (sbX1_addWithin_32 P) (fun j32 hj32 => ?_)
  refine sm_icmp_ge (pc := 9) (tgt := 32) dX1_addWithin_9 (by decide) ?_ ?_
  · skip
    exact hj32
  · skip
    refine sm_aload_n (pc := 12) (n := 0) dX1_addWithin_12 rfl ?_
    refine gf_X1_17 (pc := 13) rfl dX1_addWithin_13 ?_
    refine sm_aload_n (pc := 16) (n := 0) dX1_addWithin_16 rfl ?_
    refine gf_X1_24 (pc := 17) rfl dX1_addWithin_17 ?_
    refine sm_iload_n (pc := 20) (n := 1) dX1_addWithin_20 rfl ?_
    refine sm_iastore (pc := 21) dX1_addWithin_21 ?_
    refine sm_aload_n (pc := 22) (n := 0) dX1_addWithin_22 rfl ?_
    refine sm_dup (pc := 23) dX1_addWithin_23 ?_
    refine gf_X1_24 (pc := 24) rfl dX1_addWithin_24 ?_
    refine sm_iconst (pc := 27) dX1_addWithin_27 zc_i_1 ?_
    refine sm_iadd (pc := 28) dX1_addWithin_28 ?_
    refine pf_X1_24 (pc := 29) rfl dX1_addWithin_29 ?_
    exact hj32
noncomputable def f_X1_addWithin {d : Nat} : List zV → zH d → zP d → Bool := zfn 2 b_X1_addWithin
theorem m_X1_addWithin {d : Nat} : zMet (d := d) X_X1_addWithin yX1_addWithin 1 f_X1_addWithin := zmet_mk (X := X_X1_addWithin) (by decide) rfl rfl s_X1_addWithin

abbrev X_X3_init : zM := (RX3, cX3_init, 4, none, "<init>")
noncomputable def b_X3_init {d : Nat} (P : zP d) : zK d := (xald 0 (xobj (xald 0 (xild 1 (xpfI 19 0 (xald 0 (xild 2 (xild 3 (xmnaD 3 0 (xpfR 19 1 (xvret P)))))))))))
set_option maxRecDepth 100000 in
set_option maxHeartbeats 4000000 in
theorem s_X3_init {d : Nat} [zGh] (P : zP d) : zSim X_X3_init 1 P 0 (b_X3_init P) := by
  unfold b_X3_init
  refine sm_aload_n (pc := 0) (n := 0) dX3_init_0 rfl ?_
  refine sm_objinit (pc := 1) wd_350 wd_21 wd_22 (by decide) dX3_init_1 ?_
  refine sm_aload_n (pc := 4) (n := 0) dX3_init_4 rfl ?_
  refine sm_iload_n (pc := 5) (n := 1) dX3_init_5 rfl ?_
  refine pf_X3_7 (pc := 6) rfl rfl dX3_init_6 ?_
  refine sm_aload_n (pc := 9) (n := 0) dX3_init_9 rfl ?_
  refine sm_iload_n (pc := 10) (n := 2) dX3_init_10 rfl ?_
  refine sm_iload_n (pc := 11) (n := 3) dX3_init_11 rfl ?_
  refine sm_mnaDI (pc := 12) wd_351 wd_46 dX3_init_12 ?_
  refine pf_X3_15 (pc := 16) rfl rfl dX3_init_16 ?_
  exact sm_vreturn (pc := 19) dX3_init_19 rfl
noncomputable def f_X3_init {d : Nat} : List zV → zH d → zP d → Bool := zfn 4 b_X3_init
theorem m_X3_init {d : Nat} : zMet (d := d) X_X3_init yX3_init 1 f_X3_init := zmet_mk (X := X_X3_init) (by decide) rfl rfl s_X3_init

abbrev X_X3_set : zM := (RX3, cX3_set, 4, none, "set")
noncomputable def b_X3_set {d : Nat} (P : zP d) : zK d := (xald 0 (xgfR 19 1 (xild 1 (xaal (xild 2 (xild 3 (xald 0 (xgfI 19 0 (xfm (xast1 0 (fun v => v) (xvret P)))))))))))
set_option maxRecDepth 100000 in
set_option maxHeartbeats 4000000 in
theorem s_X3_set {d : Nat} [zGh] (P : zP d) : zSim X_X3_set 1 P 0 (b_X3_set P) := by
  unfold b_X3_set
  refine sm_aload_n (pc := 0) (n := 0) dX3_set_0 rfl ?_
  refine gf_X3_15 (pc := 1) rfl dX3_set_1 ?_
  refine sm_iload_n (pc := 4) (n := 1) dX3_set_4 rfl ?_
  refine sm_aaload (pc := 5) dX3_set_5 ?_
  refine sm_iload_n (pc := 6) (n := 2) dX3_set_6 rfl ?_
  refine sm_iload_n (pc := 7) (n := 3) dX3_set_7 rfl ?_
  refine sm_aload_n (pc := 8) (n := 0) dX3_set_8 rfl ?_
  refine gf_X3_7 (pc := 9) rfl dX3_set_9 ?_
  refine sm_fm (pc := 12) wd_368 wd_369 wd_6 wd_370 (by decide) dX3_set_12 ?_
  refine sm_iastore (pc := 15) dX3_set_15 ?_
  exact sm_vreturn (pc := 16) dX3_set_16 rfl
noncomputable def f_X3_set {d : Nat} : List zV → zH d → zP d → Bool := zfn 4 b_X3_set
theorem m_X3_set {d : Nat} : zMet (d := d) X_X3_set yX3_set 1 f_X3_set := zmet_mk (X := X_X3_set) (by decide) rfl rfl s_X3_set

abbrev X_X3_inverse : zM := (RX3, cX3_inverse, 5, (some .int), "inverse")
noncomputable def bX3_inverse_34 {d : Nat} (P : zP d) (r12 : zK d) : zK d := (xild 3 (xild 3 (xbin zmul (xald 0 (xgfI 19 0 (xbinN zrem (xist 3 (xild 4 (xpI 1 (xbin zshr (xist 4 r12)))))))))))
set_option maxRecDepth 100000 in
set_option maxHeartbeats 4000000 in
theorem sbX3_inverse_34 {d : Nat} [zGh] (P : zP d) (r12 : zK d) (hr12 : zSim X_X3_inverse 1 P 12 r12) : zSim X_X3_inverse 1 P 34 (bX3_inverse_34 P r12) := by
  unfold bX3_inverse_34
  refine sm_iload_n (pc := 34) (n := 3) dX3_inverse_34 rfl ?_
  refine sm_iload_n (pc := 35) (n := 3) dX3_inverse_35 rfl ?_
  refine sm_imul (pc := 36) dX3_inverse_36 ?_
  refine sm_aload_n (pc := 37) (n := 0) dX3_inverse_37 rfl ?_
  refine gf_X3_7 (pc := 38) rfl dX3_inverse_38 ?_
  refine sm_irem (pc := 41) dX3_inverse_41 ?_
  refine sm_istore_n (pc := 42) (n := 3) dX3_inverse_42 rfl ?_
  refine sm_iload (pc := 43) (n := 4) dX3_inverse_43 ?_
  refine sm_iconst (pc := 45) dX3_inverse_45 zc_i_1 ?_
  refine sm_ishr (pc := 46) dX3_inverse_46 ?_
  refine sm_istore (pc := 47) (n := 4) dX3_inverse_47 ?_
  refine sm_goto (pc := 49) (tgt := 12) dX3_inverse_49 (by decide) ?_
  exact hr12
noncomputable def lX3_inverse_12 {d : Nat} (P : zP d) (r12 : zK d) : zK d := (xild 4 (xif0 t0le (xild 2 (xiret P)) (xild 4 (xpI 1 (xbin zand (xpI 1 (xjoin (bX3_inverse_34 P r12) (fun j34 => (xcmp Nat.beq (xild 2 (xild 3 (xbin zmul (xald 0 (xgfI 19 0 (xbinN zrem (xist 2 j34))))))) j34)))))))))
set_option maxRecDepth 100000 in
set_option maxHeartbeats 4000000 in
theorem slX3_inverse_12 {d : Nat} [zGh] (P : zP d) (r12 : zK d) (hr12 : zSim X_X3_inverse 1 P 12 r12) : zSim X_X3_inverse 1 P 12 (lX3_inverse_12 P r12) := by
  unfold lX3_inverse_12
  refine sm_iload (pc := 12) (n := 4) dX3_inverse_12 ?_
  refine sm_if_le (pc := 14) (tgt := 52) dX3_inverse_14 (by decide) ?_ ?_
  · skip
    refine sm_iload_n (pc := 52) (n := 2) dX3_inverse_52 rfl ?_
    exact sm_ireturn (pc := 53) dX3_inverse_53 rfl
  · skip
    refine sm_iload (pc := 17) (n := 4) dX3_inverse_17 ?_
    refine sm_iconst (pc := 19) dX3_inverse_19 zc_i_1 ?_
    refine sm_iand (pc := 20) dX3_inverse_20 ?_
    refine sm_iconst (pc := 21) dX3_inverse_21 zc_i_1 ?_
    refine sm_join (pc := 22) (pc' := 34) (sbX3_inverse_34 P r12 hr12) (fun j34 hj34 => ?_)
    refine sm_icmp_ne (pc := 22) (tgt := 34) dX3_inverse_22 (by decide) ?_ ?_
    · skip
      exact hj34
    · skip
      refine sm_iload_n (pc := 25) (n := 2) dX3_inverse_25 rfl ?_
      refine sm_iload_n (pc := 26) (n := 3) dX3_inverse_26 rfl ?_
      refine sm_imul (pc := 27) dX3_inverse_27 ?_
      refine sm_aload_n (pc := 28) (n := 0) dX3_inverse_28 rfl ?_
      refine gf_X3_7 (pc := 29) rfl dX3_inverse_29 ?_
      refine sm_irem (pc := 32) dX3_inverse_32 ?_
      refine sm_istore_n (pc := 33) (n := 2) dX3_inverse_33 rfl ?_
      exact hj34
noncomputable def b_X3_inverse {d : Nat} (P : zP d) : zK d := (xpI 1 (xist 2 (xild 1 (xist 3 (xald 0 (xgfI 19 0 (xpI 2 (xbin zsub (xist 4 (xloop (fun r12 => (lX3_inverse_12 P r12)) 100000))))))))))
set_option maxRecDepth 100000 in
set_option maxHeartbeats 4000000 in
theorem s_X3_inverse {d : Nat} [zGh] (P : zP d) : zSim X_X3_inverse 1 P 0 (b_X3_inverse P) := by
  unfold b_X3_inverse
  refine sm_iconst (pc := 0) dX3_inverse_0 zc_i_1 ?_
  refine sm_istore_n (pc := 1) (n := 2) dX3_inverse_1 rfl ?_
  refine sm_iload_n (pc := 2) (n := 1) dX3_inverse_2 rfl ?_
  refine sm_istore_n (pc := 3) (n := 3) dX3_inverse_3 rfl ?_
  refine sm_aload_n (pc := 4) (n := 0) dX3_inverse_4 rfl ?_
  refine gf_X3_7 (pc := 5) rfl dX3_inverse_5 ?_
  refine sm_iconst (pc := 8) dX3_inverse_8 zc_i_2 ?_
  refine sm_isub (pc := 9) dX3_inverse_9 ?_
  refine sm_istore (pc := 10) (n := 4) dX3_inverse_10 ?_
  exact sm_loop (fun r12 hr12 => slX3_inverse_12 P r12 hr12) _
noncomputable def f_X3_inverse {d : Nat} : List zV → zH d → zP d → Bool := zfn 5 b_X3_inverse
theorem m_X3_inverse {d : Nat} : zMet (d := d) X_X3_inverse yX3_inverse 1 f_X3_inverse := zmet_mk (X := X_X3_inverse) (by decide) rfl rfl s_X3_inverse

abbrev X_X3_scale : zM := (RX3, cX3_scale, 5, none, "scale")
noncomputable def lX3_scale_3 {d : Nat} (P : zP d) (r3 : zK d) : zK d := (xild 4 (xild 3 (xcmp tge (xvret P) (xald 1 (xild 4 (xald 1 (xild 4 (xald1 0 (xild 2 (xbin zmul (xald 0 (xgfI 19 0 (xbinN zrem (xast1 0 (fun v => v) (xinc 4 1 r3)))))))))))))))
set_option maxRecDepth 100000 in
set_option maxHeartbeats 4000000 in
theorem slX3_scale_3 {d : Nat} [zGh] (P : zP d) (r3 : zK d) (hr3 : zSim X_X3_scale 1 P 3 r3) : zSim X_X3_scale 1 P 3 (lX3_scale_3 P r3) := by
  unfold lX3_scale_3
  refine sm_iload (pc := 3) (n := 4) dX3_scale_3 ?_
  refine sm_iload_n (pc := 5) (n := 3) dX3_scale_5 rfl ?_
  refine sm_icmp_ge (pc := 6) (tgt := 30) dX3_scale_6 (by decide) ?_ ?_
  · skip
    exact sm_vreturn (pc := 30) dX3_scale_30 rfl
  · skip
    refine sm_aload_n (pc := 9) (n := 1) dX3_scale_9 rfl ?_
    refine sm_iload (pc := 10) (n := 4) dX3_scale_10 ?_
    refine sm_aload_n (pc := 12) (n := 1) dX3_scale_12 rfl ?_
    refine sm_iload (pc := 13) (n := 4) dX3_scale_13 ?_
    refine sm_iaload (pc := 15) dX3_scale_15 ?_
    refine sm_iload_n (pc := 16) (n := 2) dX3_scale_16 rfl ?_
    refine sm_imul (pc := 17) dX3_scale_17 ?_
    refine sm_aload_n (pc := 18) (n := 0) dX3_scale_18 rfl ?_
    refine gf_X3_7 (pc := 19) rfl dX3_scale_19 ?_
    refine sm_irem (pc := 22) dX3_scale_22 ?_
    refine sm_iastore (pc := 23) dX3_scale_23 ?_
    refine sm_iinc (pc := 24) (n := 4) dX3_scale_24 zc_i_1 ?_
    refine sm_goto (pc := 27) (tgt := 3) dX3_scale_27 (by decide) ?_
    exact hr3
noncomputable def b_X3_scale {d : Nat} (P : zP d) : zK d := (xpI 0 (xist 4 (xloop (fun r3 => (lX3_scale_3 P r3)) 100000)))
set_option maxRecDepth 100000 in
set_option maxHeartbeats 4000000 in
theorem s_X3_scale {d : Nat} [zGh] (P : zP d) : zSim X_X3_scale 1 P 0 (b_X3_scale P) := by
  unfold b_X3_scale
  refine sm_iconst (pc := 0) dX3_scale_0 zc_i_0 ?_
  refine sm_istore (pc := 1) (n := 4) dX3_scale_1 ?_
  exact sm_loop (fun r3 hr3 => slX3_scale_3 P r3 hr3) _
noncomputable def f_X3_scale {d : Nat} : List zV → zH d → zP d → Bool := zfn 5 b_X3_scale
theorem m_X3_scale {d : Nat} : zMet (d := d) X_X3_scale yX3_scale 1 f_X3_scale := zmet_mk (X := X_X3_scale) (by decide) rfl rfl s_X3_scale

abbrev X_X3_takeAway : zM := (RX3, cX3_takeAway, 7, none, "takeAway")
noncomputable def lX3_takeAway_11 {d : Nat} (P : zP d) (r11 : zK d) : zK d := (xild 6 (xild 4 (xcmp tge (xvret P) (xald 1 (xild 6 (xald 1 (xild 6 (xald1 0 (xild 5 (xald 3 (xild 6 (xald1 0 (xbin zmul (xbin zadd (xald 0 (xgfI 19 0 (xbinN zrem (xast1 0 (fun v => v) (xinc 6 1 r11)))))))))))))))))))
set_option maxRecDepth 100000 in
set_option maxHeartbeats 4000000 in
theorem slX3_takeAway_11 {d : Nat} [zGh] (P : zP d) (r11 : zK d) (hr11 : zSim X_X3_takeAway 1 P 11 r11) : zSim X_X3_takeAway 1 P 11 (lX3_takeAway_11 P r11) := by
  unfold lX3_takeAway_11
  refine sm_iload (pc := 11) (n := 6) dX3_takeAway_11 ?_
  refine sm_iload (pc := 13) (n := 4) dX3_takeAway_13 ?_
  refine sm_icmp_ge (pc := 15) (tgt := 45) dX3_takeAway_15 (by decide) ?_ ?_
  · skip
    exact sm_vreturn (pc := 45) dX3_takeAway_45 rfl
  · skip
    refine sm_aload_n (pc := 18) (n := 1) dX3_takeAway_18 rfl ?_
    refine sm_iload (pc := 19) (n := 6) dX3_takeAway_19 ?_
    refine sm_aload_n (pc := 21) (n := 1) dX3_takeAway_21 rfl ?_
    refine sm_iload (pc := 22) (n := 6) dX3_takeAway_22 ?_
    refine sm_iaload (pc := 24) dX3_takeAway_24 ?_
    refine sm_iload (pc := 25) (n := 5) dX3_takeAway_25 ?_
    refine sm_aload_n (pc := 27) (n := 3) dX3_takeAway_27 rfl ?_
    refine sm_iload (pc := 28) (n := 6) dX3_takeAway_28 ?_
    refine sm_iaload (pc := 30) dX3_takeAway_30 ?_
    refine sm_imul (pc := 31) dX3_takeAway_31 ?_
    refine sm_iadd (pc := 32) dX3_takeAway_32 ?_
    refine sm_aload_n (pc := 33) (n := 0) dX3_takeAway_33 rfl ?_
    refine gf_X3_7 (pc := 34) rfl dX3_takeAway_34 ?_
    refine sm_irem (pc := 37) dX3_takeAway_37 ?_
    refine sm_iastore (pc := 38) dX3_takeAway_38 ?_
    refine sm_iinc (pc := 39) (n := 6) dX3_takeAway_39 zc_i_1 ?_
    refine sm_goto (pc := 42) (tgt := 11) dX3_takeAway_42 (by decide) ?_
    exact hr11
noncomputable def b_X3_takeAway {d : Nat} (P : zP d) : zK d := (xald 0 (xgfI 19 0 (xild 2 (xbin zsub (xist 5 (xpI 0 (xist 6 (xloop (fun r11 => (lX3_takeAway_11 P r11)) 100000))))))))
set_option maxRecDepth 100000 in
set_option maxHeartbeats 4000000 in
theorem s_X3_takeAway {d : Nat} [zGh] (P : zP d) : zSim X_X3_takeAway 1 P 0 (b_X3_takeAway P) := by
  unfold b_X3_takeAway
  refine sm_aload_n (pc := 0) (n := 0) dX3_takeAway_0 rfl ?_
  refine gf_X3_7 (pc := 1) rfl dX3_takeAway_1 ?_
  refine sm_iload_n (pc := 4) (n := 2) dX3_takeAway_4 rfl ?_
  refine sm_isub (pc := 5) dX3_takeAway_5 ?_
  refine sm_istore (pc := 6) (n := 5) dX3_takeAway_6 ?_
  refine sm_iconst (pc := 8) dX3_takeAway_8 zc_i_0 ?_
  refine sm_istore (pc := 9) (n := 6) dX3_takeAway_9 ?_
  exact sm_loop (fun r11 hr11 => slX3_takeAway_11 P r11 hr11) _
noncomputable def f_X3_takeAway {d : Nat} : List zV → zH d → zP d → Bool := zfn 7 b_X3_takeAway
theorem m_X3_takeAway {d : Nat} : zMet (d := d) X_X3_takeAway yX3_takeAway 1 f_X3_takeAway := zmet_mk (X := X_X3_takeAway) (by decide) rfl rfl s_X3_takeAway

abbrev X_X3_reduce : zM := (RX3, cX3_reduce, 9, (some .int), "reduce")
noncomputable def bX3_reduce_172 {d : Nat} (P : zP d) : zK d := (xild 4 (xiret P))
set_option maxRecDepth 100000 in
set_option maxHeartbeats 4000000 in
theorem sbX3_reduce_172 {d : Nat} [zGh] (P : zP d) : zSim X_X3_reduce 2 P 172 (bX3_reduce_172 P) := by
  unfold bX3_reduce_172
  refine sm_iload (pc := 172) (n := 4) dX3_reduce_172 ?_
  exact sm_ireturn (pc := 174) dX3_reduce_174 rfl
noncomputable def bX3_reduce_166 {d : Nat} (P : zP d) (r6 : zK d) : zK d := (xinc 5 1 r6)
set_option maxRecDepth 100000 in
set_option maxHeartbeats 4000000 in
theorem sbX3_reduce_166 {d : Nat} [zGh] (P : zP d) (r6 : zK d) (hr6 : zSim X_X3_reduce 2 P 6 r6) : zSim X_X3_reduce 2 P 166 (bX3_reduce_166 P r6) := by
  unfold bX3_reduce_166
  refine sm_iinc (pc := 166) (n := 5) dX3_reduce_166 zc_i_1 ?_
  refine sm_goto (pc := 169) (tgt := 6) dX3_reduce_169 (by decide) ?_
  exact hr6
noncomputable def bX3_reduce_157 {d : Nat} (P : zP d) (r107 : zK d) : zK d := (xinc 8 1 r107)
set_option maxRecDepth 100000 in
set_option maxHeartbeats 4000000 in
theorem sbX3_reduce_157 {d : Nat} [zGh] (P : zP d) (r107 : zK d) (hr107 : zSim X_X3_reduce 2 P 107 r107) : zSim X_X3_reduce 2 P 157 (bX3_reduce_157 P r107) := by
  unfold bX3_reduce_157
  refine sm_iinc (pc := 157) (n := 8) dX3_reduce_157 zc_i_1 ?_
  refine sm_goto (pc := 160) (tgt := 107) dX3_reduce_160 (by decide) ?_
  exact hr107
noncomputable def cX3_reduce_151 {d : Nat} (P : zP d) (j157 : zK d) : zK d := (xald 7 (xild 3 (xcV 19 5 0 0 f_X3_takeAway j157)))
set_option maxRecDepth 100000 in
set_option maxHeartbeats 4000000 in
theorem scX3_reduce_151 {d : Nat} [zGh] (P : zP d) (j157 : zK d) (hj157 : zSim X_X3_reduce 2 P 157 j157) : zSim X_X3_reduce 2 P 151 (cX3_reduce_151 P j157) := by
  unfold cX3_reduce_151
  refine sm_aload (pc := 151) (n := 7) dX3_reduce_151 ?_
  refine sm_iload_n (pc := 153) (n := 3) dX3_reduce_153 rfl ?_
  refine sm_cV (pc := 154) (ci := 3) (n := 5) (mc := 0) (ms := 0) rfl m_X3_takeAway (cr_X3_32 (X := X_X3_reduce) (fr := 2) (frc := 1) (pc := 154) (mc := 0) (ms := 0) rfl (by decide) dX3_reduce_154) ?_
  exact hj157
noncomputable def lX3_reduce_107 {d : Nat} (P : zP d) (j166 : zK d) (r107 : zK d) : zK d := (xild 8 (xild 1 (xcmp tge (xinc 4 1 j166) (xild 8 (xild 4 (xjoin (bX3_reduce_157 P r107) (fun j157 => (xcmp Nat.beq j157 (xald 0 (xgfR 19 1 (xild 8 (xaal (xild 5 (xald1 0 (xif0 t0eq j157 (xald 0 (xald 0 (xgfR 19 1 (xild 8 (xaal (xald 0 (xgfR 19 1 (xild 8 (xaal (xild 5 (xald1 0 (cX3_reduce_151 P j157)))))))))))))))))))))))))))
set_option maxRecDepth 100000 in
set_option maxHeartbeats 4000000 in
theorem slX3_reduce_107 {d : Nat} [zGh] (P : zP d) (j166 : zK d) (r107 : zK d) (hj166 : zSim X_X3_reduce 2 P 166 j166) (hr107 : zSim X_X3_reduce 2 P 107 r107) : zSim X_X3_reduce 2 P 107 (lX3_reduce_107 P j166 r107) := by
  unfold lX3_reduce_107
  refine sm_iload (pc := 107) (n := 8) dX3_reduce_107 ?_
  refine sm_iload_n (pc := 109) (n := 1) dX3_reduce_109 rfl ?_
  refine sm_icmp_ge (pc := 110) (tgt := 163) dX3_reduce_110 (by decide) ?_ ?_
  · skip
    refine sm_iinc (pc := 163) (n := 4) dX3_reduce_163 zc_i_1 ?_
    exact hj166
  · skip
    refine sm_iload (pc := 113) (n := 8) dX3_reduce_113 ?_
    refine sm_iload (pc := 115) (n := 4) dX3_reduce_115 ?_
    refine sm_join (pc := 117) (pc' := 157) (sbX3_reduce_157 P r107 hr107) (fun j157 hj157 => ?_)
    refine sm_icmp_eq (pc := 117) (tgt := 157) dX3_reduce_117 (by decide) ?_ ?_
    · skip
      exact hj157
    · skip
      refine sm_aload_n (pc := 120) (n := 0) dX3_reduce_120 rfl ?_
      refine gf_X3_15 (pc := 121) rfl dX3_reduce_121 ?_
      refine sm_iload (pc := 124) (n := 8) dX3_reduce_124 ?_
      refine sm_aaload (pc := 126) dX3_reduce_126 ?_
      refine sm_iload (pc := 127) (n := 5) dX3_reduce_127 ?_
      refine sm_iaload (pc := 129) dX3_reduce_129 ?_
      refine sm_if_eq (pc := 130) (tgt := 157) dX3_reduce_130 (by decide) ?_ ?_
      · skip
        exact hj157
      · skip
        refine sm_aload_n (pc := 133) (n := 0) dX3_reduce_133 rfl ?_
        refine sm_aload_n (pc := 134) (n := 0) dX3_reduce_134 rfl ?_
        refine gf_X3_15 (pc := 135) rfl dX3_reduce_135 ?_
        refine sm_iload (pc := 138) (n := 8) dX3_reduce_138 ?_
        refine sm_aaload (pc := 140) dX3_reduce_140 ?_
        refine sm_aload_n (pc := 141) (n := 0) dX3_reduce_141 rfl ?_
        refine gf_X3_15 (pc := 142) rfl dX3_reduce_142 ?_
        refine sm_iload (pc := 145) (n := 8) dX3_reduce_145 ?_
        refine sm_aaload (pc := 147) dX3_reduce_147 ?_
        refine sm_iload (pc := 148) (n := 5) dX3_reduce_148 ?_
        refine sm_iaload (pc := 150) dX3_reduce_150 ?_
        exact scX3_reduce_151 P j157 hj157
noncomputable def cX3_reduce_92 {d : Nat} (P : zP d) (j166 : zK d) : zK d := (xald 7 (xild 5 (xald1 0 (xcV 19 2 0 0 f_X3_inverse (xild 3 (xcV 19 4 0 0 f_X3_scale (xpI 0 (xist 8 (xloop (fun r107 => (lX3_reduce_107 P j166 r107)) 100000)))))))))
set_option maxRecDepth 100000 in
set_option maxHeartbeats 4000000 in
theorem scX3_reduce_92 {d : Nat} [zGh] (P : zP d) (j166 : zK d) (hj166 : zSim X_X3_reduce 2 P 166 j166) : zSim X_X3_reduce 2 P 92 (cX3_reduce_92 P j166) := by
  unfold cX3_reduce_92
  refine sm_aload (pc := 92) (n := 7) dX3_reduce_92 ?_
  refine sm_iload (pc := 94) (n := 5) dX3_reduce_94 ?_
  refine sm_iaload (pc := 96) dX3_reduce_96 ?_
  refine sm_cV (pc := 97) (ci := 3) (n := 2) (mc := 0) (ms := 0) rfl m_X3_inverse (cr_X3_24 (X := X_X3_reduce) (fr := 2) (frc := 1) (pc := 97) (mc := 0) (ms := 0) rfl (by decide) dX3_reduce_97) ?_
  refine sm_iload_n (pc := 100) (n := 3) dX3_reduce_100 rfl ?_
  refine sm_cV (pc := 101) (ci := 3) (n := 4) (mc := 0) (ms := 0) rfl m_X3_scale (cr_X3_28 (X := X_X3_reduce) (fr := 2) (frc := 1) (pc := 101) (mc := 0) (ms := 0) rfl (by decide) dX3_reduce_101) ?_
  refine sm_iconst (pc := 104) dX3_reduce_104 zc_i_0 ?_
  refine sm_istore (pc := 105) (n := 8) dX3_reduce_105 ?_
  exact sm_loop (fun r107 hr107 => slX3_reduce_107 P j166 r107 hj166 hr107) _
noncomputable def bX3_reduce_47 {d : Nat} (P : zP d) (r6 : zK d) : zK d := (xild 6 (xild 1 (xjoin (bX3_reduce_166 P r6) (fun j166 => (xcmp Nat.beq j166 (xald 0 (xgfR 19 1 (xild 6 (xaal (xast 7 (xald 0 (xgfR 19 1 (xild 6 (xald 0 (xgfR 19 1 (xild 4 (xaal (xaas 3 0 (xald 0 (xgfR 19 1 (xild 4 (xald 7 (xaas 3 0 (xald 0 (xald 7 (xald 0 (cX3_reduce_92 P j166)))))))))))))))))))))))))))
set_option maxRecDepth 100000 in
set_option maxHeartbeats 4000000 in
theorem sbX3_reduce_47 {d : Nat} [zGh] (P : zP d) (r6 : zK d) (hr6 : zSim X_X3_reduce 2 P 6 r6) : zSim X_X3_reduce 2 P 47 (bX3_reduce_47 P r6) := by
  unfold bX3_reduce_47
  refine sm_iload (pc := 47) (n := 6) dX3_reduce_47 ?_
  refine sm_iload_n (pc := 49) (n := 1) dX3_reduce_49 rfl ?_
  refine sm_join (pc := 50) (pc' := 166) (sbX3_reduce_166 P r6 hr6) (fun j166 hj166 => ?_)
  refine sm_icmp_ne (pc := 50) (tgt := 56) dX3_reduce_50 (by decide) ?_ ?_
  · skip
    refine sm_aload_n (pc := 56) (n := 0) dX3_reduce_56 rfl ?_
    refine gf_X3_15 (pc := 57) rfl dX3_reduce_57 ?_
    refine sm_iload (pc := 60) (n := 6) dX3_reduce_60 ?_
    refine sm_aaload (pc := 62) dX3_reduce_62 ?_
    refine sm_astore (pc := 63) (n := 7) dX3_reduce_63 ?_
    refine sm_aload_n (pc := 65) (n := 0) dX3_reduce_65 rfl ?_
    refine gf_X3_15 (pc := 66) rfl dX3_reduce_66 ?_
    refine sm_iload (pc := 69) (n := 6) dX3_reduce_69 ?_
    refine sm_aload_n (pc := 71) (n := 0) dX3_reduce_71 rfl ?_
    refine gf_X3_15 (pc := 72) rfl dX3_reduce_72 ?_
    refine sm_iload (pc := 75) (n := 4) dX3_reduce_75 ?_
    refine sm_aaload (pc := 77) dX3_reduce_77 ?_
    refine sm_aastoreI (pc := 78) dX3_reduce_78 ?_
    refine sm_aload_n (pc := 79) (n := 0) dX3_reduce_79 rfl ?_
    refine gf_X3_15 (pc := 80) rfl dX3_reduce_80 ?_
    refine sm_iload (pc := 83) (n := 4) dX3_reduce_83 ?_
    refine sm_aload (pc := 85) (n := 7) dX3_reduce_85 ?_
    refine sm_aastoreI (pc := 87) dX3_reduce_87 ?_
    refine sm_aload_n (pc := 88) (n := 0) dX3_reduce_88 rfl ?_
    refine sm_aload (pc := 89) (n := 7) dX3_reduce_89 ?_
    refine sm_aload_n (pc := 91) (n := 0) dX3_reduce_91 rfl ?_
    exact scX3_reduce_92 P j166 hj166
  · skip
    refine sm_goto (pc := 53) (tgt := 166) dX3_reduce_53 (by decide) ?_
    exact hj166
noncomputable def lX3_reduce_22 {d : Nat} (P : zP d) (r22 : zK d) (r6 : zK d) : zK d := (xild 6 (xild 1 (xjoin (bX3_reduce_47 P r6) (fun j47 => (xcmp tge j47 (xald 0 (xgfR 19 1 (xild 6 (xaal (xild 5 (xald1 0 (xif0 t0eq (xinc 6 1 r22) j47))))))))))))
set_option maxRecDepth 100000 in
set_option maxHeartbeats 4000000 in
theorem slX3_reduce_22 {d : Nat} [zGh] (P : zP d) (r22 : zK d) (r6 : zK d) (hr22 : zSim X_X3_reduce 2 P 22 r22) (hr6 : zSim X_X3_reduce 2 P 6 r6) : zSim X_X3_reduce 2 P 22 (lX3_reduce_22 P r22 r6) := by
  unfold lX3_reduce_22
  refine sm_iload (pc := 22) (n := 6) dX3_reduce_22 ?_
  refine sm_iload_n (pc := 24) (n := 1) dX3_reduce_24 rfl ?_
  refine sm_join (pc := 25) (pc' := 47) (sbX3_reduce_47 P r6 hr6) (fun j47 hj47 => ?_)
  refine sm_icmp_ge (pc := 25) (tgt := 47) dX3_reduce_25 (by decide) ?_ ?_
  · skip
    exact hj47
  · skip
    refine sm_aload_n (pc := 28) (n := 0) dX3_reduce_28 rfl ?_
    refine gf_X3_15 (pc := 29) rfl dX3_reduce_29 ?_
    refine sm_iload (pc := 32) (n := 6) dX3_reduce_32 ?_
    refine sm_aaload (pc := 34) dX3_reduce_34 ?_
    refine sm_iload (pc := 35) (n := 5) dX3_reduce_35 ?_
    refine sm_iaload (pc := 37) dX3_reduce_37 ?_
    refine sm_if_ne (pc := 38) (tgt := 47) dX3_reduce_38 (by decide) ?_ ?_
    · skip
      exact hj47
    · skip
      refine sm_iinc (pc := 41) (n := 6) dX3_reduce_41 zc_i_1 ?_
      refine sm_goto (pc := 44) (tgt := 22) dX3_reduce_44 (by decide) ?_
      exact hr22
noncomputable def lX3_reduce_6 {d : Nat} (P : zP d) (r6 : zK d) : zK d := (xild 5 (xild 2 (xjoin (bX3_reduce_172 P) (fun j172 => (xcmp tge j172 (xild 4 (xild 1 (xcmp tge j172 (xild 4 (xist 6 (xloop (fun r22 => (lX3_reduce_22 P r22 r6)) 100000)))))))))))
set_option maxRecDepth 100000 in
set_option maxHeartbeats 4000000 in
theorem slX3_reduce_6 {d : Nat} [zGh] (P : zP d) (r6 : zK d) (hr6 : zSim X_X3_reduce 2 P 6 r6) : zSim X_X3_reduce 2 P 6 (lX3_reduce_6 P r6) := by
  unfold lX3_reduce_6
  refine sm_iload (pc := 6) (n := 5) dX3_reduce_6 ?_
  refine sm_iload_n (pc := 8) (n := 2) dX3_reduce_8 rfl ?_
  refine sm_join (pc := 9) (pc' := 172) (sbX3_reduce_172 P) (fun j172 hj172 => ?_)
  refine sm_icmp_ge (pc := 9) (tgt := 172) dX3_reduce_9 (by decide) ?_ ?_
  · skip
    exact hj172
  · skip
    refine sm_iload (pc := 12) (n := 4) dX3_reduce_12 ?_
    refine sm_iload_n (pc := 14) (n := 1) dX3_reduce_14 rfl ?_
    refine sm_icmp_ge (pc := 15) (tgt := 172) dX3_reduce_15 (by decide) ?_ ?_
    · skip
      exact hj172
    · skip
      refine sm_iload (pc := 18) (n := 4) dX3_reduce_18 ?_
      refine sm_istore (pc := 20) (n := 6) dX3_reduce_20 ?_
      exact sm_loop (fun r22 hr22 => slX3_reduce_22 P r22 r6 hr22 hr6) _
noncomputable def b_X3_reduce {d : Nat} (P : zP d) : zK d := (xpI 0 (xist 4 (xpI 0 (xist 5 (xloop (fun r6 => (lX3_reduce_6 P r6)) 100000)))))
set_option maxRecDepth 100000 in
set_option maxHeartbeats 4000000 in
theorem s_X3_reduce {d : Nat} [zGh] (P : zP d) : zSim X_X3_reduce 2 P 0 (b_X3_reduce P) := by
  unfold b_X3_reduce
  refine sm_iconst (pc := 0) dX3_reduce_0 zc_i_0 ?_
  refine sm_istore (pc := 1) (n := 4) dX3_reduce_1 ?_
  refine sm_iconst (pc := 3) dX3_reduce_3 zc_i_0 ?_
  refine sm_istore (pc := 4) (n := 5) dX3_reduce_4 ?_
  exact sm_loop (fun r6 hr6 => slX3_reduce_6 P r6 hr6) _
noncomputable def f_X3_reduce {d : Nat} : List zV → zH d → zP d → Bool := zfn 9 b_X3_reduce
theorem m_X3_reduce {d : Nat} : zMet (d := d) X_X3_reduce yX3_reduce 2 f_X3_reduce := zmet_mk (X := X_X3_reduce) (by decide) rfl rfl s_X3_reduce

abbrev X_X8_factorialOf : zM := (RX8, cX8_factorialOf, 3, (some .int), "factorialOf")
noncomputable def lX8_factorialOf_4 {d : Nat} (P : zP d) (r4 : zK d) : zK d := (xild 2 (xild 0 (xcmp tle (xild 1 (xild 2 (xbin zmul (xist 1 (xinc 2 1 r4))))) (xild 1 (xiret P)))))
set_option maxRecDepth 100000 in
set_option maxHeartbeats 4000000 in
theorem slX8_factorialOf_4 {d : Nat} [zGh] (P : zP d) (r4 : zK d) (hr4 : zSim X_X8_factorialOf 1 P 4 r4) : zSim X_X8_factorialOf 1 P 4 (lX8_factorialOf_4 P r4) := by
  unfold lX8_factorialOf_4
  refine sm_iload_n (pc := 4) (n := 2) dX8_factorialOf_4 rfl ?_
  refine sm_iload_n (pc := 5) (n := 0) dX8_factorialOf_5 rfl ?_
  refine sm_icmp_gt (pc := 6) (tgt := 19) dX8_factorialOf_6 (by decide) ?_ ?_
  · skip
    refine sm_iload_n (pc := 19) (n := 1) dX8_factorialOf_19 rfl ?_
    exact sm_ireturn (pc := 20) dX8_factorialOf_20 rfl
  · skip
    refine sm_iload_n (pc := 9) (n := 1) dX8_factorialOf_9 rfl ?_
    refine sm_iload_n (pc := 10) (n := 2) dX8_factorialOf_10 rfl ?_
    refine sm_imul (pc := 11) dX8_factorialOf_11 ?_
    refine sm_istore_n (pc := 12) (n := 1) dX8_factorialOf_12 rfl ?_
    refine sm_iinc (pc := 13) (n := 2) dX8_factorialOf_13 zc_i_1 ?_
    refine sm_goto (pc := 16) (tgt := 4) dX8_factorialOf_16 (by decide) ?_
    exact hr4
noncomputable def b_X8_factorialOf {d : Nat} (P : zP d) : zK d := (xpI 1 (xist 1 (xpI 2 (xist 2 (xloop (fun r4 => (lX8_factorialOf_4 P r4)) 100000)))))
set_option maxRecDepth 100000 in
set_option maxHeartbeats 4000000 in
theorem s_X8_factorialOf {d : Nat} [zGh] (P : zP d) : zSim X_X8_factorialOf 1 P 0 (b_X8_factorialOf P) := by
  unfold b_X8_factorialOf
  refine sm_iconst (pc := 0) dX8_factorialOf_0 zc_i_1 ?_
  refine sm_istore_n (pc := 1) (n := 1) dX8_factorialOf_1 rfl ?_
  refine sm_iconst (pc := 2) dX8_factorialOf_2 zc_i_2 ?_
  refine sm_istore_n (pc := 3) (n := 2) dX8_factorialOf_3 rfl ?_
  exact sm_loop (fun r4 hr4 => slX8_factorialOf_4 P r4 hr4) _
noncomputable def f_X8_factorialOf {d : Nat} : List zV → zH d → zP d → Bool := zfn 3 b_X8_factorialOf
theorem m_X8_factorialOf {d : Nat} : zMet (d := d) X_X8_factorialOf yX8_factorialOf 1 f_X8_factorialOf := zmet_mk (X := X_X8_factorialOf) (by decide) rfl rfl s_X8_factorialOf

abbrev X_X8_greatestDivisor : zM := (RX8, cX8_greatestDivisor, 11, (some .long), "greatestDivisor")
noncomputable def bX8_greatestDivisor_45 {d : Nat} (P : zP d) : zK d := (xlld 4 (xlret P))
set_option maxRecDepth 100000 in
set_option maxHeartbeats 4000000 in
theorem sbX8_greatestDivisor_45 {d : Nat} [zGh] (P : zP d) : zSim X_X8_greatestDivisor 1 P 45 (bX8_greatestDivisor_45 P) := by
  unfold bX8_greatestDivisor_45
  refine sm_lload (pc := 45) (n := 4) dX8_greatestDivisor_45 ?_
  exact sm_lreturn (pc := 47) dX8_greatestDivisor_47 rfl
noncomputable def lX8_greatestDivisor_9 {d : Nat} (P : zP d) (r9 : zK d) : zK d := (xild 8 (xpI 200 (xjoin (bX8_greatestDivisor_45 P) (fun j45 => (xcmp tge j45 (xlld 6 (xpL 0 (xlcmp (xif0 t0eq j45 (xlld 4 (xlld 6 (xbinjN zremj (xlst 9 (xlld 6 (xlst 4 (xlld 9 (xlst 6 (xinc 8 1 r9))))))))))))))))))
set_option maxRecDepth 100000 in
set_option maxHeartbeats 4000000 in
theorem slX8_greatestDivisor_9 {d : Nat} [zGh] (P : zP d) (r9 : zK d) (hr9 : zSim X_X8_greatestDivisor 1 P 9 r9) : zSim X_X8_greatestDivisor 1 P 9 (lX8_greatestDivisor_9 P r9) := by
  unfold lX8_greatestDivisor_9
  refine sm_iload (pc := 9) (n := 8) dX8_greatestDivisor_9 ?_
  refine sm_sipush (pc := 11) dX8_greatestDivisor_11 zc_s_200 ?_
  refine sm_join (pc := 14) (pc' := 45) (sbX8_greatestDivisor_45 P) (fun j45 hj45 => ?_)
  refine sm_icmp_ge (pc := 14) (tgt := 45) dX8_greatestDivisor_14 (by decide) ?_ ?_
  · skip
    exact hj45
  · skip
    refine sm_lload (pc := 17) (n := 6) dX8_greatestDivisor_17 ?_
    refine sm_lconst (pc := 19) dX8_greatestDivisor_19 zc_l_0 ?_
    refine sm_lcmp (pc := 20) dX8_greatestDivisor_20 ?_
    refine sm_if_eq (pc := 21) (tgt := 45) dX8_greatestDivisor_21 (by decide) ?_ ?_
    · skip
      exact hj45
    · skip
      refine sm_lload (pc := 24) (n := 4) dX8_greatestDivisor_24 ?_
      refine sm_lload (pc := 26) (n := 6) dX8_greatestDivisor_26 ?_
      refine sm_lrem (pc := 28) dX8_greatestDivisor_28 ?_
      refine sm_lstore (pc := 29) (n := 9) dX8_greatestDivisor_29 ?_
      refine sm_lload (pc := 31) (n := 6) dX8_greatestDivisor_31 ?_
      refine sm_lstore (pc := 33) (n := 4) dX8_greatestDivisor_33 ?_
      refine sm_lload (pc := 35) (n := 9) dX8_greatestDivisor_35 ?_
      refine sm_lstore (pc := 37) (n := 6) dX8_greatestDivisor_37 ?_
      refine sm_iinc (pc := 39) (n := 8) dX8_greatestDivisor_39 zc_i_1 ?_
      refine sm_goto (pc := 42) (tgt := 9) dX8_greatestDivisor_42 (by decide) ?_
      exact hr9
noncomputable def b_X8_greatestDivisor {d : Nat} (P : zP d) : zK d := (xlld 0 (xlst 4 (xlld 2 (xlst 6 (xpI 0 (xist 8 (xloop (fun r9 => (lX8_greatestDivisor_9 P r9)) 100000)))))))
set_option maxRecDepth 100000 in
set_option maxHeartbeats 4000000 in
theorem s_X8_greatestDivisor {d : Nat} [zGh] (P : zP d) : zSim X_X8_greatestDivisor 1 P 0 (b_X8_greatestDivisor P) := by
  unfold b_X8_greatestDivisor
  refine sm_lload_n (pc := 0) (n := 0) dX8_greatestDivisor_0 rfl ?_
  refine sm_lstore (pc := 1) (n := 4) dX8_greatestDivisor_1 ?_
  refine sm_lload_n (pc := 3) (n := 2) dX8_greatestDivisor_3 rfl ?_
  refine sm_lstore (pc := 4) (n := 6) dX8_greatestDivisor_4 ?_
  refine sm_iconst (pc := 6) dX8_greatestDivisor_6 zc_i_0 ?_
  refine sm_istore (pc := 7) (n := 8) dX8_greatestDivisor_7 ?_
  exact sm_loop (fun r9 hr9 => slX8_greatestDivisor_9 P r9 hr9) _
noncomputable def f_X8_greatestDivisor {d : Nat} : List zV → zH d → zP d → Bool := zfn 11 b_X8_greatestDivisor
theorem m_X8_greatestDivisor {d : Nat} : zMet (d := d) X_X8_greatestDivisor yX8_greatestDivisor 1 f_X8_greatestDivisor := zmet_mk (X := X_X8_greatestDivisor) (by decide) rfl rfl s_X8_greatestDivisor

abbrev X_X8_bit : zM := (RX8, cX8_bit, 1, (some .int), "bit")
noncomputable def bX8_bit_9 {d : Nat} (P : zP d) : zK d := (xiret P)
set_option maxRecDepth 100000 in
set_option maxHeartbeats 4000000 in
theorem sbX8_bit_9 {d : Nat} [zGh] (P : zP d) : zSim X_X8_bit 1 P 9 (bX8_bit_9 P) := by
  unfold bX8_bit_9
  exact sm_ireturn (pc := 9) dX8_bit_9 rfl
noncomputable def b_X8_bit {d : Nat} (P : zP d) : zK d := (xild 0 (xjoin (bX8_bit_9 P) (fun j9 => (xif0 t0eq (xpI 0 j9) (xpI 1 j9)))))
set_option maxRecDepth 100000 in
set_option maxHeartbeats 4000000 in
theorem s_X8_bit {d : Nat} [zGh] (P : zP d) : zSim X_X8_bit 1 P 0 (b_X8_bit P) := by
  unfold b_X8_bit
  refine sm_iload_n (pc := 0) (n := 0) dX8_bit_0 rfl ?_
  refine sm_join (pc := 1) (pc' := 9) (sbX8_bit_9 P) (fun j9 hj9 => ?_)
  refine sm_if_eq (pc := 1) (tgt := 8) dX8_bit_1 (by decide) ?_ ?_
  · skip
    refine sm_iconst (pc := 8) dX8_bit_8 zc_i_0 ?_
    exact hj9
  · skip
    refine sm_iconst (pc := 4) dX8_bit_4 zc_i_1 ?_
    refine sm_goto (pc := 5) (tgt := 9) dX8_bit_5 (by decide) ?_
    exact hj9
noncomputable def f_X8_bit {d : Nat} : List zV → zH d → zP d → Bool := zfn 1 b_X8_bit
theorem m_X8_bit {d : Nat} : zMet (d := d) X_X8_bit yX8_bit 1 f_X8_bit := zmet_mk (X := X_X8_bit) (by decide) rfl rfl s_X8_bit

abbrev X_X8_isSlot : zM := (RX8, cX8_isSlot, 1, (some .boolean), "isSlot")
noncomputable def bX8_isSlot_15 {d : Nat} (P : zP d) : zK d := (xzret P)
set_option maxRecDepth 100000 in
set_option maxHeartbeats 4000000 in
theorem sbX8_isSlot_15 {d : Nat} [zGh] (P : zP d) : zSim X_X8_isSlot 1 P 15 (bX8_isSlot_15 P) := by
  unfold bX8_isSlot_15
  exact sm_zreturn (pc := 15) dX8_isSlot_15 rfl
noncomputable def bX8_isSlot_14 {d : Nat} (P : zP d) (j15 : zK d) : zK d := (xpI 0 j15)
set_option maxRecDepth 100000 in
set_option maxHeartbeats 4000000 in
theorem sbX8_isSlot_14 {d : Nat} [zGh] (P : zP d) (j15 : zK d) (hj15 : zSim X_X8_isSlot 1 P 15 j15) : zSim X_X8_isSlot 1 P 14 (bX8_isSlot_14 P j15) := by
  unfold bX8_isSlot_14
  refine sm_iconst (pc := 14) dX8_isSlot_14 zc_i_0 ?_
  exact hj15
noncomputable def b_X8_isSlot {d : Nat} (P : zP d) : zK d := (xild 0 (xjoin (bX8_isSlot_15 P) (fun j15 => (xjoin (bX8_isSlot_14 P j15) (fun j14 => (xif0 t0ge (xild 0 (xpI 6 (xcmp tge j14 (xpI 1 j15)))) j14))))))
set_option maxRecDepth 100000 in
set_option maxHeartbeats 4000000 in
theorem s_X8_isSlot {d : Nat} [zGh] (P : zP d) : zSim X_X8_isSlot 1 P 0 (b_X8_isSlot P) := by
  unfold b_X8_isSlot
  refine sm_iload_n (pc := 0) (n := 0) dX8_isSlot_0 rfl ?_
  refine sm_join (pc := 1) (pc' := 15) (sbX8_isSlot_15 P) (fun j15 hj15 => ?_)
  refine sm_join (pc := 1) (pc' := 14) (sbX8_isSlot_14 P j15 hj15) (fun j14 hj14 => ?_)
  refine sm_if_lt (pc := 1) (tgt := 14) dX8_isSlot_1 (by decide) ?_ ?_
  · skip
    exact hj14
  · skip
    refine sm_iload_n (pc := 4) (n := 0) dX8_isSlot_4 rfl ?_
    refine sm_bipush (pc := 5) dX8_isSlot_5 zc_b_6 ?_
    refine sm_icmp_ge (pc := 7) (tgt := 14) dX8_isSlot_7 (by decide) ?_ ?_
    · skip
      exact hj14
    · skip
      refine sm_iconst (pc := 10) dX8_isSlot_10 zc_i_1 ?_
      refine sm_goto (pc := 11) (tgt := 15) dX8_isSlot_11 (by decide) ?_
      exact hj15
noncomputable def f_X8_isSlot {d : Nat} : List zV → zH d → zP d → Bool := zfn 1 b_X8_isSlot
theorem m_X8_isSlot {d : Nat} : zMet (d := d) X_X8_isSlot yX8_isSlot 1 f_X8_isSlot := zmet_mk (X := X_X8_isSlot) (by decide) rfl rfl s_X8_isSlot

abbrev X_X8_groupIndex : zM := (RX8, cX8_groupIndex, 2, (some .int), "groupIndex")
noncomputable def b_X8_groupIndex {d : Nat} (P : zP d) : zK d := (xild 0 (xpI 8 (xbin zmul (xild 1 (xbin zadd (xiret P))))))
set_option maxRecDepth 100000 in
set_option maxHeartbeats 4000000 in
theorem s_X8_groupIndex {d : Nat} [zGh] (P : zP d) : zSim X_X8_groupIndex 1 P 0 (b_X8_groupIndex P) := by
  unfold b_X8_groupIndex
  refine sm_iload_n (pc := 0) (n := 0) dX8_groupIndex_0 rfl ?_
  refine sm_bipush (pc := 1) dX8_groupIndex_1 zc_b_8 ?_
  refine sm_imul (pc := 3) dX8_groupIndex_3 ?_
  refine sm_iload_n (pc := 4) (n := 1) dX8_groupIndex_4 rfl ?_
  refine sm_iadd (pc := 5) dX8_groupIndex_5 ?_
  exact sm_ireturn (pc := 6) dX8_groupIndex_6 rfl
noncomputable def f_X8_groupIndex {d : Nat} : List zV → zH d → zP d → Bool := zfn 2 b_X8_groupIndex
theorem m_X8_groupIndex {d : Nat} : zMet (d := d) X_X8_groupIndex yX8_groupIndex 1 f_X8_groupIndex := zmet_mk (X := X_X8_groupIndex) (by decide) rfl rfl s_X8_groupIndex

abbrev X_X8_partAt : zM := (RX8, cX8_partAt, 2, (some .int), "partAt")
noncomputable def bX8_partAt_13 {d : Nat} (P : zP d) : zK d := (xiret P)
set_option maxRecDepth 100000 in
set_option maxHeartbeats 4000000 in
theorem sbX8_partAt_13 {d : Nat} [zGh] (P : zP d) : zSim X_X8_partAt 1 P 13 (bX8_partAt_13 P) := by
  unfold bX8_partAt_13
  exact sm_ireturn (pc := 13) dX8_partAt_13 rfl
noncomputable def b_X8_partAt {d : Nat} (P : zP d) : zK d := (xild 1 (xald 0 (xlen (xjoin (bX8_partAt_13 P) (fun j13 => (xcmp tge (xpI 0 j13) (xald 0 (xild 1 (xald1 0 j13)))))))))
set_option maxRecDepth 100000 in
set_option maxHeartbeats 4000000 in
theorem s_X8_partAt {d : Nat} [zGh] (P : zP d) : zSim X_X8_partAt 1 P 0 (b_X8_partAt P) := by
  unfold b_X8_partAt
  refine sm_iload_n (pc := 0) (n := 1) dX8_partAt_0 rfl ?_
  refine sm_aload_n (pc := 1) (n := 0) dX8_partAt_1 rfl ?_
  refine sm_arraylength (pc := 2) dX8_partAt_2 ?_
  refine sm_join (pc := 3) (pc' := 13) (sbX8_partAt_13 P) (fun j13 hj13 => ?_)
  refine sm_icmp_ge (pc := 3) (tgt := 12) dX8_partAt_3 (by decide) ?_ ?_
  · skip
    refine sm_iconst (pc := 12) dX8_partAt_12 zc_i_0 ?_
    exact hj13
  · skip
    refine sm_aload_n (pc := 6) (n := 0) dX8_partAt_6 rfl ?_
    refine sm_iload_n (pc := 7) (n := 1) dX8_partAt_7 rfl ?_
    refine sm_iaload (pc := 8) dX8_partAt_8 ?_
    refine sm_goto (pc := 9) (tgt := 13) dX8_partAt_9 (by decide) ?_
    exact hj13
noncomputable def f_X8_partAt {d : Nat} : List zV → zH d → zP d → Bool := zfn 2 b_X8_partAt
theorem m_X8_partAt {d : Nat} : zMet (d := d) X_X8_partAt yX8_partAt 1 f_X8_partAt := zmet_mk (X := X_X8_partAt) (by decide) rfl rfl s_X8_partAt
end
