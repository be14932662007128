/-! instructions of the class, by program -/
theorem zdT_dX5_sumOfRoots_28 : zdch cX5_sumOfRoots [(28, (.if_icmp .ge 43, 3)), (31, (.iload_n 3, 1)), (32, (.iload 5, 2)), (34, (.irem, 1)), (35, (.ifCond .ne 30, 3)), (38, (.iload 4, 2)), (40, (.aload_n 0, 1)), (41, (.iload_n 1, 1)), (42, (.iload 5, 2)), (44, (.aload_n 2, 1)), (45, (.invokevirtual 155, 3)), (48, (.getstatic 152, 3)), (51, (.iload 5, 2)), (53, (.iaload, 1)), (54, (.idiv, 1)), (55, (.getstatic 159, 3)), (58, (.iload 5, 2)), (60, (.iaload, 1)), (61, (.imul, 1)), (62, (.iadd, 1)), (63, (.istore 4, 2)), (65, (.iinc 5 1, 3)), (68, (.goto (-52), 3)), (71, (.iload 4, 2)), (73, (.ireturn, 1))] = true := by decide +kernel
theorem dX5_sumOfRoots_28 : decode cX5_sumOfRoots 28 = .ok (.if_icmp .ge 43, 3) := zdcg 0 zdT_dX5_sumOfRoots_28 rfl
theorem dX5_sumOfRoots_31 : decode cX5_sumOfRoots 31 = .ok (.iload_n 3, 1) := zdcg 1 zdT_dX5_sumOfRoots_28 rfl
theorem dX5_sumOfRoots_32 : decode cX5_sumOfRoots 32 = .ok (.iload 5, 2) := zdcg 2 zdT_dX5_sumOfRoots_28 rfl
theorem dX5_sumOfRoots_34 : decode cX5_sumOfRoots 34 = .ok (.irem, 1) := zdcg 3 zdT_dX5_sumOfRoots_28 rfl
theorem dX5_sumOfRoots_35 : decode cX5_sumOfRoots 35 = .ok (.ifCond .ne 30, 3) := zdcg 4 zdT_dX5_sumOfRoots_28 rfl
theorem dX5_sumOfRoots_38 : decode cX5_sumOfRoots 38 = .ok (.iload 4, 2) := zdcg 5 zdT_dX5_sumOfRoots_28 rfl
theorem dX5_sumOfRoots_40 : decode cX5_sumOfRoots 40 = .ok (.aload_n 0, 1) := zdcg 6 zdT_dX5_sumOfRoots_28 rfl
theorem dX5_sumOfRoots_41 : decode cX5_sumOfRoots 41 = .ok (.iload_n 1, 1) := zdcg 7 zdT_dX5_sumOfRoots_28 rfl
theorem dX5_sumOfRoots_42 : decode cX5_sumOfRoots 42 = .ok (.iload 5, 2) := zdcg 8 zdT_dX5_sumOfRoots_28 rfl
theorem dX5_sumOfRoots_44 : decode cX5_sumOfRoots 44 = .ok (.aload_n 2, 1) := zdcg 9 zdT_dX5_sumOfRoots_28 rfl
theorem dX5_sumOfRoots_45 : decode cX5_sumOfRoots 45 = .ok (.invokevirtual 155, 3) := zdcg 10 zdT_dX5_sumOfRoots_28 rfl
theorem dX5_sumOfRoots_48 : decode cX5_sumOfRoots 48 = .ok (.getstatic 152, 3) := zdcg 11 zdT_dX5_sumOfRoots_28 rfl
theorem dX5_sumOfRoots_51 : decode cX5_sumOfRoots 51 = .ok (.iload 5, 2) := zdcg 12 zdT_dX5_sumOfRoots_28 rfl
theorem dX5_sumOfRoots_53 : decode cX5_sumOfRoots 53 = .ok (.iaload, 1) := zdcg 13 zdT_dX5_sumOfRoots_28 rfl
theorem dX5_sumOfRoots_54 : decode cX5_sumOfRoots 54 = .ok (.idiv, 1) := zdcg 14 zdT_dX5_sumOfRoots_28 rfl
theorem dX5_sumOfRoots_55 : decode cX5_sumOfRoots 55 = .ok (.getstatic 159, 3) := zdcg 15 zdT_dX5_sumOfRoots_28 rfl
theorem dX5_sumOfRoots_58 : decode cX5_sumOfRoots 58 = .ok (.iload 5, 2) := zdcg 16 zdT_dX5_sumOfRoots_28 rfl
theorem dX5_sumOfRoots_60 : decode cX5_sumOfRoots 60 = .ok (.iaload, 1) := zdcg 17 zdT_dX5_sumOfRoots_28 rfl
theorem dX5_sumOfRoots_61 : decode cX5_sumOfRoots 61 = .ok (.imul, 1) := zdcg 18 zdT_dX5_sumOfRoots_28 rfl
theorem dX5_sumOfRoots_62 : decode cX5_sumOfRoots 62 = .ok (.iadd, 1) := zdcg 19 zdT_dX5_sumOfRoots_28 rfl
theorem dX5_sumOfRoots_63 : decode cX5_sumOfRoots 63 = .ok (.istore 4, 2) := zdcg 20 zdT_dX5_sumOfRoots_28 rfl
theorem dX5_sumOfRoots_65 : decode cX5_sumOfRoots 65 = .ok (.iinc 5 1, 3) := zdcg 21 zdT_dX5_sumOfRoots_28 rfl
theorem dX5_sumOfRoots_68 : decode cX5_sumOfRoots 68 = .ok (.goto (-52), 3) := zdcg 22 zdT_dX5_sumOfRoots_28 rfl
theorem dX5_sumOfRoots_71 : decode cX5_sumOfRoots 71 = .ok (.iload 4, 2) := zdcg 23 zdT_dX5_sumOfRoots_28 rfl
theorem dX5_sumOfRoots_73 : decode cX5_sumOfRoots 73 = .ok (.ireturn, 1) := zdcg 24 zdT_dX5_sumOfRoots_28 rfl
theorem zdT_dX5_dimensionsOfOrder_0 : zdch cX5_dimensionsOfOrder [(0, (.iconst 0, 1)), (1, (.istore 4, 2)), (3, (.iconst 1, 1)), (4, (.istore 5, 2)), (6, (.iload 5, 2)), (8, (.iload_n 2, 1)), (9, (.if_icmp .gt 44, 3)), (12, (.iload_n 2, 1)), (13, (.iload 5, 2)), (15, (.irem, 1)), (16, (.ifCond .ne 31, 3)), (19, (.iload 4, 2)), (21, (.getstatic 159, 3)), (24, (.iload_n 2, 1)), (25, (.iload 5, 2)), (27, (.idiv, 1)), (28, (.iaload, 1)), (29, (.aload_n 3, 1)), (30, (.aload_n 0, 1)), (31, (.getfield 9, 3)), (34, (.getfield 162, 3)), (37, (.iload_n 1, 1)), (38, (.aaload, 1)), (39, (.iload 5, 2)), (41, (.iaload, 1))] = true := by decide +kernel
theorem dX5_dimensionsOfOrder_0 : decode cX5_dimensionsOfOrder 0 = .ok (.iconst 0, 1) := zdcg 0 zdT_dX5_dimensionsOfOrder_0 rfl
theorem dX5_dimensionsOfOrder_1 : decode cX5_dimensionsOfOrder 1 = .ok (.istore 4, 2) := zdcg 1 zdT_dX5_dimensionsOfOrder_0 rfl
theorem dX5_dimensionsOfOrder_3 : decode cX5_dimensionsOfOrder 3 = .ok (.iconst 1, 1) := zdcg 2 zdT_dX5_dimensionsOfOrder_0 rfl
theorem dX5_dimensionsOfOrder_4 : decode cX5_dimensionsOfOrder 4 = .ok (.istore 5, 2) := zdcg 3 zdT_dX5_dimensionsOfOrder_0 rfl
theorem dX5_dimensionsOfOrder_6 : decode cX5_dimensionsOfOrder 6 = .ok (.iload 5, 2) := zdcg 4 zdT_dX5_dimensionsOfOrder_0 rfl
theorem dX5_dimensionsOfOrder_8 : decode cX5_dimensionsOfOrder 8 = .ok (.iload_n 2, 1) := zdcg 5 zdT_dX5_dimensionsOfOrder_0 rfl
theorem dX5_dimensionsOfOrder_9 : decode cX5_dimensionsOfOrder 9 = .ok (.if_icmp .gt 44, 3) := zdcg 6 zdT_dX5_dimensionsOfOrder_0 rfl
theorem dX5_dimensionsOfOrder_12 : decode cX5_dimensionsOfOrder 12 = .ok (.iload_n 2, 1) := zdcg 7 zdT_dX5_dimensionsOfOrder_0 rfl
theorem dX5_dimensionsOfOrder_13 : decode cX5_dimensionsOfOrder 13 = .ok (.iload 5, 2) := zdcg 8 zdT_dX5_dimensionsOfOrder_0 rfl
theorem dX5_dimensionsOfOrder_15 : decode cX5_dimensionsOfOrder 15 = .ok (.irem, 1) := zdcg 9 zdT_dX5_dimensionsOfOrder_0 rfl
theorem dX5_dimensionsOfOrder_16 : decode cX5_dimensionsOfOrder 16 = .ok (.ifCond .ne 31, 3) := zdcg 10 zdT_dX5_dimensionsOfOrder_0 rfl
theorem dX5_dimensionsOfOrder_19 : decode cX5_dimensionsOfOrder 19 = .ok (.iload 4, 2) := zdcg 11 zdT_dX5_dimensionsOfOrder_0 rfl
theorem dX5_dimensionsOfOrder_21 : decode cX5_dimensionsOfOrder 21 = .ok (.getstatic 159, 3) := zdcg 12 zdT_dX5_dimensionsOfOrder_0 rfl
theorem dX5_dimensionsOfOrder_24 : decode cX5_dimensionsOfOrder 24 = .ok (.iload_n 2, 1) := zdcg 13 zdT_dX5_dimensionsOfOrder_0 rfl
theorem dX5_dimensionsOfOrder_25 : decode cX5_dimensionsOfOrder 25 = .ok (.iload 5, 2) := zdcg 14 zdT_dX5_dimensionsOfOrder_0 rfl
theorem dX5_dimensionsOfOrder_27 : decode cX5_dimensionsOfOrder 27 = .ok (.idiv, 1) := zdcg 15 zdT_dX5_dimensionsOfOrder_0 rfl
theorem dX5_dimensionsOfOrder_28 : decode cX5_dimensionsOfOrder 28 = .ok (.iaload, 1) := zdcg 16 zdT_dX5_dimensionsOfOrder_0 rfl
theorem dX5_dimensionsOfOrder_29 : decode cX5_dimensionsOfOrder 29 = .ok (.aload_n 3, 1) := zdcg 17 zdT_dX5_dimensionsOfOrder_0 rfl
theorem dX5_dimensionsOfOrder_30 : decode cX5_dimensionsOfOrder 30 = .ok (.aload_n 0, 1) := zdcg 18 zdT_dX5_dimensionsOfOrder_0 rfl
theorem dX5_dimensionsOfOrder_31 : decode cX5_dimensionsOfOrder 31 = .ok (.getfield 9, 3) := zdcg 19 zdT_dX5_dimensionsOfOrder_0 rfl
theorem dX5_dimensionsOfOrder_34 : decode cX5_dimensionsOfOrder 34 = .ok (.getfield 162, 3) := zdcg 20 zdT_dX5_dimensionsOfOrder_0 rfl
theorem dX5_dimensionsOfOrder_37 : decode cX5_dimensionsOfOrder 37 = .ok (.iload_n 1, 1) := zdcg 21 zdT_dX5_dimensionsOfOrder_0 rfl
theorem dX5_dimensionsOfOrder_38 : decode cX5_dimensionsOfOrder 38 = .ok (.aaload, 1) := zdcg 22 zdT_dX5_dimensionsOfOrder_0 rfl
theorem dX5_dimensionsOfOrder_39 : decode cX5_dimensionsOfOrder 39 = .ok (.iload 5, 2) := zdcg 23 zdT_dX5_dimensionsOfOrder_0 rfl
theorem dX5_dimensionsOfOrder_41 : decode cX5_dimensionsOfOrder 41 = .ok (.iaload, 1) := zdcg 24 zdT_dX5_dimensionsOfOrder_0 rfl
theorem zdT_dX5_dimensionsOfOrder_42 : zdch cX5_dimensionsOfOrder [(42, (.iaload, 1)), (43, (.imul, 1)), (44, (.iadd, 1)), (45, (.istore 4, 2)), (47, (.iinc 5 1, 3)), (50, (.goto (-44), 3)), (53, (.iload 4, 2)), (55, (.ireturn, 1))] = true := by decide +kernel
theorem dX5_dimensionsOfOrder_42 : decode cX5_dimensionsOfOrder 42 = .ok (.iaload, 1) := zdcg 0 zdT_dX5_dimensionsOfOrder_42 rfl
theorem dX5_dimensionsOfOrder_43 : decode cX5_dimensionsOfOrder 43 = .ok (.imul, 1) := zdcg 1 zdT_dX5_dimensionsOfOrder_42 rfl
theorem dX5_dimensionsOfOrder_44 : decode cX5_dimensionsOfOrder 44 = .ok (.iadd, 1) := zdcg 2 zdT_dX5_dimensionsOfOrder_42 rfl
theorem dX5_dimensionsOfOrder_45 : decode cX5_dimensionsOfOrder 45 = .ok (.istore 4, 2) := zdcg 3 zdT_dX5_dimensionsOfOrder_42 rfl
theorem dX5_dimensionsOfOrder_47 : decode cX5_dimensionsOfOrder 47 = .ok (.iinc 5 1, 3) := zdcg 4 zdT_dX5_dimensionsOfOrder_42 rfl
theorem dX5_dimensionsOfOrder_50 : decode cX5_dimensionsOfOrder 50 = .ok (.goto (-44), 3) := zdcg 5 zdT_dX5_dimensionsOfOrder_42 rfl
theorem dX5_dimensionsOfOrder_53 : decode cX5_dimensionsOfOrder 53 = .ok (.iload 4, 2) := zdcg 6 zdT_dX5_dimensionsOfOrder_42 rfl
theorem dX5_dimensionsOfOrder_55 : decode cX5_dimensionsOfOrder 55 = .ok (.ireturn, 1) := zdcg 7 zdT_dX5_dimensionsOfOrder_42 rfl
theorem zdT_dX5_makeDecompositions_0 : zdch cX5_makeDecompositions [(0, (.aload_n 0, 1)), (1, (.getfield 9, 3)), (4, (.getfield 19, 3)), (7, (.istore_n 1, 1)), (8, (.new 105, 3)), (11, (.dup, 1)), (12, (.sipush 10007, 3)), (15, (.iload_n 1, 1)), (16, (.aload_n 0, 1)), (17, (.getfield 89, 3)), (20, (.iload_n 1, 1)), (21, (.iadd, 1)), (22, (.invokespecial 107, 3)), (25, (.astore_n 2, 1)), (26, (.iconst 0, 1)), (27, (.istore_n 3, 1)), (28, (.iconst 0, 1)), (29, (.istore 4, 2)), (31, (.iload 4, 2)), (33, (.iload_n 1, 1)), (34, (.if_icmp .ge 96, 3)), (37, (.aload_n 0, 1)), (38, (.getfield 28, 3)), (41, (.iload 4, 2)), (43, (.baload, 1))] = true := by decide +kernel
theorem dX5_makeDecompositions_0 : decode cX5_makeDecompositions 0 = .ok (.aload_n 0, 1) := zdcg 0 zdT_dX5_makeDecompositions_0 rfl
theorem dX5_makeDecompositions_1 : decode cX5_makeDecompositions 1 = .ok (.getfield 9, 3) := zdcg 1 zdT_dX5_makeDecompositions_0 rfl
theorem dX5_makeDecompositions_4 : decode cX5_makeDecompositions 4 = .ok (.getfield 19, 3) := zdcg 2 zdT_dX5_makeDecompositions_0 rfl
theorem dX5_makeDecompositions_7 : decode cX5_makeDecompositions 7 = .ok (.istore_n 1, 1) := zdcg 3 zdT_dX5_makeDecompositions_0 rfl
theorem dX5_makeDecompositions_8 : decode cX5_makeDecompositions 8 = .ok (.new 105, 3) := zdcg 4 zdT_dX5_makeDecompositions_0 rfl
theorem dX5_makeDecompositions_11 : decode cX5_makeDecompositions 11 = .ok (.dup, 1) := zdcg 5 zdT_dX5_makeDecompositions_0 rfl
theorem dX5_makeDecompositions_12 : decode cX5_makeDecompositions 12 = .ok (.sipush 10007, 3) := zdcg 6 zdT_dX5_makeDecompositions_0 rfl
theorem dX5_makeDecompositions_15 : decode cX5_makeDecompositions 15 = .ok (.iload_n 1, 1) := zdcg 7 zdT_dX5_makeDecompositions_0 rfl
theorem dX5_makeDecompositions_16 : decode cX5_makeDecompositions 16 = .ok (.aload_n 0, 1) := zdcg 8 zdT_dX5_makeDecompositions_0 rfl
theorem dX5_makeDecompositions_17 : decode cX5_makeDecompositions 17 = .ok (.getfield 89, 3) := zdcg 9 zdT_dX5_makeDecompositions_0 rfl
theorem dX5_makeDecompositions_20 : decode cX5_makeDecompositions 20 = .ok (.iload_n 1, 1) := zdcg 10 zdT_dX5_makeDecompositions_0 rfl
theorem dX5_makeDecompositions_21 : decode cX5_makeDecompositions 21 = .ok (.iadd, 1) := zdcg 11 zdT_dX5_makeDecompositions_0 rfl
theorem dX5_makeDecompositions_22 : decode cX5_makeDecompositions 22 = .ok (.invokespecial 107, 3) := zdcg 12 zdT_dX5_makeDecompositions_0 rfl
theorem dX5_makeDecompositions_25 : decode cX5_makeDecompositions 25 = .ok (.astore_n 2, 1) := zdcg 13 zdT_dX5_makeDecompositions_0 rfl
theorem dX5_makeDecompositions_26 : decode cX5_makeDecompositions 26 = .ok (.iconst 0, 1) := zdcg 14 zdT_dX5_makeDecompositions_0 rfl
theorem dX5_makeDecompositions_27 : decode cX5_makeDecompositions 27 = .ok (.istore_n 3, 1) := zdcg 15 zdT_dX5_makeDecompositions_0 rfl
theorem dX5_makeDecompositions_28 : decode cX5_makeDecompositions 28 = .ok (.iconst 0, 1) := zdcg 16 zdT_dX5_makeDecompositions_0 rfl
theorem dX5_makeDecompositions_29 : decode cX5_makeDecompositions 29 = .ok (.istore 4, 2) := zdcg 17 zdT_dX5_makeDecompositions_0 rfl
theorem dX5_makeDecompositions_31 : decode cX5_makeDecompositions 31 = .ok (.iload 4, 2) := zdcg 18 zdT_dX5_makeDecompositions_0 rfl
theorem dX5_makeDecompositions_33 : decode cX5_makeDecompositions 33 = .ok (.iload_n 1, 1) := zdcg 19 zdT_dX5_makeDecompositions_0 rfl
theorem dX5_makeDecompositions_34 : decode cX5_makeDecompositions 34 = .ok (.if_icmp .ge 96, 3) := zdcg 20 zdT_dX5_makeDecompositions_0 rfl
theorem dX5_makeDecompositions_37 : decode cX5_makeDecompositions 37 = .ok (.aload_n 0, 1) := zdcg 21 zdT_dX5_makeDecompositions_0 rfl
theorem dX5_makeDecompositions_38 : decode cX5_makeDecompositions 38 = .ok (.getfield 28, 3) := zdcg 22 zdT_dX5_makeDecompositions_0 rfl
theorem dX5_makeDecompositions_41 : decode cX5_makeDecompositions 41 = .ok (.iload 4, 2) := zdcg 23 zdT_dX5_makeDecompositions_0 rfl
theorem dX5_makeDecompositions_43 : decode cX5_makeDecompositions 43 = .ok (.baload, 1) := zdcg 24 zdT_dX5_makeDecompositions_0 rfl
theorem zdT_dX5_makeDecompositions_44 : zdch cX5_makeDecompositions [(44, (.ifCond .ne 6, 3)), (47, (.goto 77, 3)), (50, (.iconst 0, 1)), (51, (.istore 5, 2)), (53, (.iload 5, 2)), (55, (.iload_n 1, 1)), (56, (.if_icmp .ge 65, 3)), (59, (.aload_n 2, 1)), (60, (.iload_n 3, 1)), (61, (.aload_n 0, 1)), (62, (.getfield 89, 3)), (65, (.iload 5, 2)), (67, (.iadd, 1)), (68, (.aload_n 0, 1)), (69, (.getfield 9, 3)), (72, (.getfield 129, 3)), (75, (.iload 5, 2)), (77, (.aaload, 1)), (78, (.iload 4, 2)), (80, (.iaload, 1)), (81, (.invokevirtual 132, 3)), (84, (.aload_n 0, 1)), (85, (.iload 5, 2)), (87, (.invokevirtual 117, 3)), (90, (.ifCond .eq 25, 3))] = true := by decide +kernel
theorem dX5_makeDecompositions_44 : decode cX5_makeDecompositions 44 = .ok (.ifCond .ne 6, 3) := zdcg 0 zdT_dX5_makeDecompositions_44 rfl
theorem dX5_makeDecompositions_47 : decode cX5_makeDecompositions 47 = .ok (.goto 77, 3) := zdcg 1 zdT_dX5_makeDecompositions_44 rfl
theorem dX5_makeDecompositions_50 : decode cX5_makeDecompositions 50 = .ok (.iconst 0, 1) := zdcg 2 zdT_dX5_makeDecompositions_44 rfl
theorem dX5_makeDecompositions_51 : decode cX5_makeDecompositions 51 = .ok (.istore 5, 2) := zdcg 3 zdT_dX5_makeDecompositions_44 rfl
theorem dX5_makeDecompositions_53 : decode cX5_makeDecompositions 53 = .ok (.iload 5, 2) := zdcg 4 zdT_dX5_makeDecompositions_44 rfl
theorem dX5_makeDecompositions_55 : decode cX5_makeDecompositions 55 = .ok (.iload_n 1, 1) := zdcg 5 zdT_dX5_makeDecompositions_44 rfl
theorem dX5_makeDecompositions_56 : decode cX5_makeDecompositions 56 = .ok (.if_icmp .ge 65, 3) := zdcg 6 zdT_dX5_makeDecompositions_44 rfl
theorem dX5_makeDecompositions_59 : decode cX5_makeDecompositions 59 = .ok (.aload_n 2, 1) := zdcg 7 zdT_dX5_makeDecompositions_44 rfl
theorem dX5_makeDecompositions_60 : decode cX5_makeDecompositions 60 = .ok (.iload_n 3, 1) := zdcg 8 zdT_dX5_makeDecompositions_44 rfl
theorem dX5_makeDecompositions_61 : decode cX5_makeDecompositions 61 = .ok (.aload_n 0, 1) := zdcg 9 zdT_dX5_makeDecompositions_44 rfl
theorem dX5_makeDecompositions_62 : decode cX5_makeDecompositions 62 = .ok (.getfield 89, 3) := zdcg 10 zdT_dX5_makeDecompositions_44 rfl
theorem dX5_makeDecompositions_65 : decode cX5_makeDecompositions 65 = .ok (.iload 5, 2) := zdcg 11 zdT_dX5_makeDecompositions_44 rfl
theorem dX5_makeDecompositions_67 : decode cX5_makeDecompositions 67 = .ok (.iadd, 1) := zdcg 12 zdT_dX5_makeDecompositions_44 rfl
theorem dX5_makeDecompositions_68 : decode cX5_makeDecompositions 68 = .ok (.aload_n 0, 1) := zdcg 13 zdT_dX5_makeDecompositions_44 rfl
theorem dX5_makeDecompositions_69 : decode cX5_makeDecompositions 69 = .ok (.getfield 9, 3) := zdcg 14 zdT_dX5_makeDecompositions_44 rfl
theorem dX5_makeDecompositions_72 : decode cX5_makeDecompositions 72 = .ok (.getfield 129, 3) := zdcg 15 zdT_dX5_makeDecompositions_44 rfl
theorem dX5_makeDecompositions_75 : decode cX5_makeDecompositions 75 = .ok (.iload 5, 2) := zdcg 16 zdT_dX5_makeDecompositions_44 rfl
theorem dX5_makeDecompositions_77 : decode cX5_makeDecompositions 77 = .ok (.aaload, 1) := zdcg 17 zdT_dX5_makeDecompositions_44 rfl
theorem dX5_makeDecompositions_78 : decode cX5_makeDecompositions 78 = .ok (.iload 4, 2) := zdcg 18 zdT_dX5_makeDecompositions_44 rfl
theorem dX5_makeDecompositions_80 : decode cX5_makeDecompositions 80 = .ok (.iaload, 1) := zdcg 19 zdT_dX5_makeDecompositions_44 rfl
theorem dX5_makeDecompositions_81 : decode cX5_makeDecompositions 81 = .ok (.invokevirtual 132, 3) := zdcg 20 zdT_dX5_makeDecompositions_44 rfl
theorem dX5_makeDecompositions_84 : decode cX5_makeDecompositions 84 = .ok (.aload_n 0, 1) := zdcg 21 zdT_dX5_makeDecompositions_44 rfl
theorem dX5_makeDecompositions_85 : decode cX5_makeDecompositions 85 = .ok (.iload 5, 2) := zdcg 22 zdT_dX5_makeDecompositions_44 rfl
theorem dX5_makeDecompositions_87 : decode cX5_makeDecompositions 87 = .ok (.invokevirtual 117, 3) := zdcg 23 zdT_dX5_makeDecompositions_44 rfl
theorem dX5_makeDecompositions_90 : decode cX5_makeDecompositions 90 = .ok (.ifCond .eq 25, 3) := zdcg 24 zdT_dX5_makeDecompositions_44 rfl
theorem zdT_dX5_makeDecompositions_93 : zdch cX5_makeDecompositions [(93, (.aload_n 2, 1)), (94, (.iload_n 3, 1)), (95, (.aload_n 0, 1)), (96, (.getfield 24, 3)), (99, (.iload 5, 2)), (101, (.iaload, 1)), (102, (.aload_n 0, 1)), (103, (.getfield 40, 3)), (106, (.iload 5, 2)), (108, (.aaload, 1)), (109, (.iload 4, 2)), (111, (.iaload, 1)), (112, (.invokevirtual 132, 3)), (115, (.iinc 5 1, 3)), (118, (.goto (-65), 3)), (121, (.iinc 3 1, 3)), (124, (.iinc 4 1, 3)), (127, (.goto (-96), 3)), (130, (.aload_n 2, 1)), (131, (.iload_n 3, 1)), (132, (.aload_n 0, 1)), (133, (.getfield 89, 3)), (136, (.aload_n 0, 1)), (137, (.getfield 89, 3)), (140, (.iload_n 1, 1))] = true := by decide +kernel
theorem dX5_makeDecompositions_93 : decode cX5_makeDecompositions 93 = .ok (.aload_n 2, 1) := zdcg 0 zdT_dX5_makeDecompositions_93 rfl
theorem dX5_makeDecompositions_94 : decode cX5_makeDecompositions 94 = .ok (.iload_n 3, 1) := zdcg 1 zdT_dX5_makeDecompositions_93 rfl
theorem dX5_makeDecompositions_95 : decode cX5_makeDecompositions 95 = .ok (.aload_n 0, 1) := zdcg 2 zdT_dX5_makeDecompositions_93 rfl
theorem dX5_makeDecompositions_96 : decode cX5_makeDecompositions 96 = .ok (.getfield 24, 3) := zdcg 3 zdT_dX5_makeDecompositions_93 rfl
theorem dX5_makeDecompositions_99 : decode cX5_makeDecompositions 99 = .ok (.iload 5, 2) := zdcg 4 zdT_dX5_makeDecompositions_93 rfl
theorem dX5_makeDecompositions_101 : decode cX5_makeDecompositions 101 = .ok (.iaload, 1) := zdcg 5 zdT_dX5_makeDecompositions_93 rfl
theorem dX5_makeDecompositions_102 : decode cX5_makeDecompositions 102 = .ok (.aload_n 0, 1) := zdcg 6 zdT_dX5_makeDecompositions_93 rfl
theorem dX5_makeDecompositions_103 : decode cX5_makeDecompositions 103 = .ok (.getfield 40, 3) := zdcg 7 zdT_dX5_makeDecompositions_93 rfl
theorem dX5_makeDecompositions_106 : decode cX5_makeDecompositions 106 = .ok (.iload 5, 2) := zdcg 8 zdT_dX5_makeDecompositions_93 rfl
theorem dX5_makeDecompositions_108 : decode cX5_makeDecompositions 108 = .ok (.aaload, 1) := zdcg 9 zdT_dX5_makeDecompositions_93 rfl
theorem dX5_makeDecompositions_109 : decode cX5_makeDecompositions 109 = .ok (.iload 4, 2) := zdcg 10 zdT_dX5_makeDecompositions_93 rfl
theorem dX5_makeDecompositions_111 : decode cX5_makeDecompositions 111 = .ok (.iaload, 1) := zdcg 11 zdT_dX5_makeDecompositions_93 rfl
theorem dX5_makeDecompositions_112 : decode cX5_makeDecompositions 112 = .ok (.invokevirtual 132, 3) := zdcg 12 zdT_dX5_makeDecompositions_93 rfl
theorem dX5_makeDecompositions_115 : decode cX5_makeDecompositions 115 = .ok (.iinc 5 1, 3) := zdcg 13 zdT_dX5_makeDecompositions_93 rfl
theorem dX5_makeDecompositions_118 : decode cX5_makeDecompositions 118 = .ok (.goto (-65), 3) := zdcg 14 zdT_dX5_makeDecompositions_93 rfl
theorem dX5_makeDecompositions_121 : decode cX5_makeDecompositions 121 = .ok (.iinc 3 1, 3) := zdcg 15 zdT_dX5_makeDecompositions_93 rfl
theorem dX5_makeDecompositions_124 : decode cX5_makeDecompositions 124 = .ok (.iinc 4 1, 3) := zdcg 16 zdT_dX5_makeDecompositions_93 rfl
theorem dX5_makeDecompositions_127 : decode cX5_makeDecompositions 127 = .ok (.goto (-96), 3) := zdcg 17 zdT_dX5_makeDecompositions_93 rfl
theorem dX5_makeDecompositions_130 : decode cX5_makeDecompositions 130 = .ok (.aload_n 2, 1) := zdcg 18 zdT_dX5_makeDecompositions_93 rfl
theorem dX5_makeDecompositions_131 : decode cX5_makeDecompositions 131 = .ok (.iload_n 3, 1) := zdcg 19 zdT_dX5_makeDecompositions_93 rfl
theorem dX5_makeDecompositions_132 : decode cX5_makeDecompositions 132 = .ok (.aload_n 0, 1) := zdcg 20 zdT_dX5_makeDecompositions_93 rfl
theorem dX5_makeDecompositions_133 : decode cX5_makeDecompositions 133 = .ok (.getfield 89, 3) := zdcg 21 zdT_dX5_makeDecompositions_93 rfl
theorem dX5_makeDecompositions_136 : decode cX5_makeDecompositions 136 = .ok (.aload_n 0, 1) := zdcg 22 zdT_dX5_makeDecompositions_93 rfl
theorem dX5_makeDecompositions_137 : decode cX5_makeDecompositions 137 = .ok (.getfield 89, 3) := zdcg 23 zdT_dX5_makeDecompositions_93 rfl
theorem dX5_makeDecompositions_140 : decode cX5_makeDecompositions 140 = .ok (.iload_n 1, 1) := zdcg 24 zdT_dX5_makeDecompositions_93 rfl
theorem zdT_dX5_makeDecompositions_141 : zdch cX5_makeDecompositions [(141, (.iadd, 1)), (142, (.invokevirtual 135, 3)), (145, (.pop, 1)), (146, (.iconst 0, 1)), (147, (.istore 4, 2)), (149, (.iload 4, 2)), (151, (.iload_n 1, 1)), (152, (.if_icmp .ge 63, 3)), (155, (.aload_n 0, 1)), (156, (.iload 4, 2)), (158, (.invokevirtual 117, 3)), (161, (.ifCond .eq 48, 3)), (164, (.iconst 0, 1)), (165, (.istore 5, 2)), (167, (.iload 5, 2)), (169, (.iload_n 1, 1)), (170, (.if_icmp .ge 39, 3)), (173, (.aload_n 0, 1)), (174, (.getfield 46, 3)), (177, (.iload 5, 2)), (179, (.aaload, 1)), (180, (.iload 4, 2)), (182, (.aload_n 2, 1)), (183, (.getfield 165, 3)), (186, (.aload_n 0, 1))] = true := by decide +kernel
theorem dX5_makeDecompositions_141 : decode cX5_makeDecompositions 141 = .ok (.iadd, 1) := zdcg 0 zdT_dX5_makeDecompositions_141 rfl
theorem dX5_makeDecompositions_142 : decode cX5_makeDecompositions 142 = .ok (.invokevirtual 135, 3) := zdcg 1 zdT_dX5_makeDecompositions_141 rfl
theorem dX5_makeDecompositions_145 : decode cX5_makeDecompositions 145 = .ok (.pop, 1) := zdcg 2 zdT_dX5_makeDecompositions_141 rfl
theorem dX5_makeDecompositions_146 : decode cX5_makeDecompositions 146 = .ok (.iconst 0, 1) := zdcg 3 zdT_dX5_makeDecompositions_141 rfl
theorem dX5_makeDecompositions_147 : decode cX5_makeDecompositions 147 = .ok (.istore 4, 2) := zdcg 4 zdT_dX5_makeDecompositions_141 rfl
theorem dX5_makeDecompositions_149 : decode cX5_makeDecompositions 149 = .ok (.iload 4, 2) := zdcg 5 zdT_dX5_makeDecompositions_141 rfl
theorem dX5_makeDecompositions_151 : decode cX5_makeDecompositions 151 = .ok (.iload_n 1, 1) := zdcg 6 zdT_dX5_makeDecompositions_141 rfl
theorem dX5_makeDecompositions_152 : decode cX5_makeDecompositions 152 = .ok (.if_icmp .ge 63, 3) := zdcg 7 zdT_dX5_makeDecompositions_141 rfl
theorem dX5_makeDecompositions_155 : decode cX5_makeDecompositions 155 = .ok (.aload_n 0, 1) := zdcg 8 zdT_dX5_makeDecompositions_141 rfl
theorem dX5_makeDecompositions_156 : decode cX5_makeDecompositions 156 = .ok (.iload 4, 2) := zdcg 9 zdT_dX5_makeDecompositions_141 rfl
theorem dX5_makeDecompositions_158 : decode cX5_makeDecompositions 158 = .ok (.invokevirtual 117, 3) := zdcg 10 zdT_dX5_makeDecompositions_141 rfl
theorem dX5_makeDecompositions_161 : decode cX5_makeDecompositions 161 = .ok (.ifCond .eq 48, 3) := zdcg 11 zdT_dX5_makeDecompositions_141 rfl
theorem dX5_makeDecompositions_164 : decode cX5_makeDecompositions 164 = .ok (.iconst 0, 1) := zdcg 12 zdT_dX5_makeDecompositions_141 rfl
theorem dX5_makeDecompositions_165 : decode cX5_makeDecompositions 165 = .ok (.istore 5, 2) := zdcg 13 zdT_dX5_makeDecompositions_141 rfl
theorem dX5_makeDecompositions_167 : decode cX5_makeDecompositions 167 = .ok (.iload 5, 2) := zdcg 14 zdT_dX5_makeDecompositions_141 rfl
theorem dX5_makeDecompositions_169 : decode cX5_makeDecompositions 169 = .ok (.iload_n 1, 1) := zdcg 15 zdT_dX5_makeDecompositions_141 rfl
theorem dX5_makeDecompositions_170 : decode cX5_makeDecompositions 170 = .ok (.if_icmp .ge 39, 3) := zdcg 16 zdT_dX5_makeDecompositions_141 rfl
theorem dX5_makeDecompositions_173 : decode cX5_makeDecompositions 173 = .ok (.aload_n 0, 1) := zdcg 17 zdT_dX5_makeDecompositions_141 rfl
theorem dX5_makeDecompositions_174 : decode cX5_makeDecompositions 174 = .ok (.getfield 46, 3) := zdcg 18 zdT_dX5_makeDecompositions_141 rfl
theorem dX5_makeDecompositions_177 : decode cX5_makeDecompositions 177 = .ok (.iload 5, 2) := zdcg 19 zdT_dX5_makeDecompositions_141 rfl
theorem dX5_makeDecompositions_179 : decode cX5_makeDecompositions 179 = .ok (.aaload, 1) := zdcg 20 zdT_dX5_makeDecompositions_141 rfl
theorem dX5_makeDecompositions_180 : decode cX5_makeDecompositions 180 = .ok (.iload 4, 2) := zdcg 21 zdT_dX5_makeDecompositions_141 rfl
theorem dX5_makeDecompositions_182 : decode cX5_makeDecompositions 182 = .ok (.aload_n 2, 1) := zdcg 22 zdT_dX5_makeDecompositions_141 rfl
theorem dX5_makeDecompositions_183 : decode cX5_makeDecompositions 183 = .ok (.getfield 165, 3) := zdcg 23 zdT_dX5_makeDecompositions_141 rfl
theorem dX5_makeDecompositions_186 : decode cX5_makeDecompositions 186 = .ok (.aload_n 0, 1) := zdcg 24 zdT_dX5_makeDecompositions_141 rfl
theorem zdT_dX5_makeDecompositions_187 : zdch cX5_makeDecompositions [(187, (.getfield 24, 3)), (190, (.iload 4, 2)), (192, (.iaload, 1)), (193, (.aaload, 1)), (194, (.aload_n 0, 1)), (195, (.getfield 89, 3)), (198, (.iload 5, 2)), (200, (.iadd, 1)), (201, (.iaload, 1)), (202, (.iastore, 1)), (203, (.iinc 5 1, 3)), (206, (.goto (-39), 3)), (209, (.iinc 4 1, 3)), (212, (.goto (-63), 3)), (215, (.return_, 1))] = true := by decide +kernel
theorem dX5_makeDecompositions_187 : decode cX5_makeDecompositions 187 = .ok (.getfield 24, 3) := zdcg 0 zdT_dX5_makeDecompositions_187 rfl
theorem dX5_makeDecompositions_190 : decode cX5_makeDecompositions 190 = .ok (.iload 4, 2) := zdcg 1 zdT_dX5_makeDecompositions_187 rfl
theorem dX5_makeDecompositions_192 : decode cX5_makeDecompositions 192 = .ok (.iaload, 1) := zdcg 2 zdT_dX5_makeDecompositions_187 rfl
theorem dX5_makeDecompositions_193 : decode cX5_makeDecompositions 193 = .ok (.aaload, 1) := zdcg 3 zdT_dX5_makeDecompositions_187 rfl
theorem dX5_makeDecompositions_194 : decode cX5_makeDecompositions 194 = .ok (.aload_n 0, 1) := zdcg 4 zdT_dX5_makeDecompositions_187 rfl
theorem dX5_makeDecompositions_195 : decode cX5_makeDecompositions 195 = .ok (.getfield 89, 3) := zdcg 5 zdT_dX5_makeDecompositions_187 rfl
theorem dX5_makeDecompositions_198 : decode cX5_makeDecompositions 198 = .ok (.iload 5, 2) := zdcg 6 zdT_dX5_makeDecompositions_187 rfl
theorem dX5_makeDecompositions_200 : decode cX5_makeDecompositions 200 = .ok (.iadd, 1) := zdcg 7 zdT_dX5_makeDecompositions_187 rfl
theorem dX5_makeDecompositions_201 : decode cX5_makeDecompositions 201 = .ok (.iaload, 1) := zdcg 8 zdT_dX5_makeDecompositions_187 rfl
theorem dX5_makeDecompositions_202 : decode cX5_makeDecompositions 202 = .ok (.iastore, 1) := zdcg 9 zdT_dX5_makeDecompositions_187 rfl
theorem dX5_makeDecompositions_203 : decode cX5_makeDecompositions 203 = .ok (.iinc 5 1, 3) := zdcg 10 zdT_dX5_makeDecompositions_187 rfl
theorem dX5_makeDecompositions_206 : decode cX5_makeDecompositions 206 = .ok (.goto (-39), 3) := zdcg 11 zdT_dX5_makeDecompositions_187 rfl
theorem dX5_makeDecompositions_209 : decode cX5_makeDecompositions 209 = .ok (.iinc 4 1, 3) := zdcg 12 zdT_dX5_makeDecompositions_187 rfl
theorem dX5_makeDecompositions_212 : decode cX5_makeDecompositions 212 = .ok (.goto (-63), 3) := zdcg 13 zdT_dX5_makeDecompositions_187 rfl
theorem dX5_makeDecompositions_215 : decode cX5_makeDecompositions 215 = .ok (.return_, 1) := zdcg 14 zdT_dX5_makeDecompositions_187 rfl
theorem zdT_dX5_makeCartans_0 : zdch cX5_makeCartans [(0, (.iconst 0, 1)), (1, (.istore_n 1, 1)), (2, (.iload_n 1, 1)), (3, (.aload_n 0, 1)), (4, (.getfield 9, 3)), (7, (.getfield 19, 3)), (10, (.if_icmp .ge 75, 3)), (13, (.iconst 0, 1)), (14, (.istore_n 2, 1)), (15, (.iload_n 2, 1)), (16, (.aload_n 0, 1)), (17, (.getfield 9, 3)), (20, (.getfield 19, 3)), (23, (.if_icmp .ge 56, 3)), (26, (.iconst 0, 1)), (27, (.istore_n 3, 1)), (28, (.iload_n 3, 1)), (29, (.aload_n 0, 1)), (30, (.getfield 9, 3)), (33, (.getfield 19, 3)), (36, (.if_icmp .ge 37, 3)), (39, (.aload_n 0, 1)), (40, (.getfield 52, 3)), (43, (.iload_n 2, 1)), (44, (.aaload, 1))] = true := by decide +kernel
theorem dX5_makeCartans_0 : decode cX5_makeCartans 0 = .ok (.iconst 0, 1) := zdcg 0 zdT_dX5_makeCartans_0 rfl
theorem dX5_makeCartans_1 : decode cX5_makeCartans 1 = .ok (.istore_n 1, 1) := zdcg 1 zdT_dX5_makeCartans_0 rfl
theorem dX5_makeCartans_2 : decode cX5_makeCartans 2 = .ok (.iload_n 1, 1) := zdcg 2 zdT_dX5_makeCartans_0 rfl
theorem dX5_makeCartans_3 : decode cX5_makeCartans 3 = .ok (.aload_n 0, 1) := zdcg 3 zdT_dX5_makeCartans_0 rfl
theorem dX5_makeCartans_4 : decode cX5_makeCartans 4 = .ok (.getfield 9, 3) := zdcg 4 zdT_dX5_makeCartans_0 rfl
theorem dX5_makeCartans_7 : decode cX5_makeCartans 7 = .ok (.getfield 19, 3) := zdcg 5 zdT_dX5_makeCartans_0 rfl
theorem dX5_makeCartans_10 : decode cX5_makeCartans 10 = .ok (.if_icmp .ge 75, 3) := zdcg 6 zdT_dX5_makeCartans_0 rfl
theorem dX5_makeCartans_13 : decode cX5_makeCartans 13 = .ok (.iconst 0, 1) := zdcg 7 zdT_dX5_makeCartans_0 rfl
theorem dX5_makeCartans_14 : decode cX5_makeCartans 14 = .ok (.istore_n 2, 1) := zdcg 8 zdT_dX5_makeCartans_0 rfl
theorem dX5_makeCartans_15 : decode cX5_makeCartans 15 = .ok (.iload_n 2, 1) := zdcg 9 zdT_dX5_makeCartans_0 rfl
theorem dX5_makeCartans_16 : decode cX5_makeCartans 16 = .ok (.aload_n 0, 1) := zdcg 10 zdT_dX5_makeCartans_0 rfl
theorem dX5_makeCartans_17 : decode cX5_makeCartans 17 = .ok (.getfield 9, 3) := zdcg 11 zdT_dX5_makeCartans_0 rfl
theorem dX5_makeCartans_20 : decode cX5_makeCartans 20 = .ok (.getfield 19, 3) := zdcg 12 zdT_dX5_makeCartans_0 rfl
theorem dX5_makeCartans_23 : decode cX5_makeCartans 23 = .ok (.if_icmp .ge 56, 3) := zdcg 13 zdT_dX5_makeCartans_0 rfl
theorem dX5_makeCartans_26 : decode cX5_makeCartans 26 = .ok (.iconst 0, 1) := zdcg 14 zdT_dX5_makeCartans_0 rfl
theorem dX5_makeCartans_27 : decode cX5_makeCartans 27 = .ok (.istore_n 3, 1) := zdcg 15 zdT_dX5_makeCartans_0 rfl
theorem dX5_makeCartans_28 : decode cX5_makeCartans 28 = .ok (.iload_n 3, 1) := zdcg 16 zdT_dX5_makeCartans_0 rfl
theorem dX5_makeCartans_29 : decode cX5_makeCartans 29 = .ok (.aload_n 0, 1) := zdcg 17 zdT_dX5_makeCartans_0 rfl
theorem dX5_makeCartans_30 : decode cX5_makeCartans 30 = .ok (.getfield 9, 3) := zdcg 18 zdT_dX5_makeCartans_0 rfl
theorem dX5_makeCartans_33 : decode cX5_makeCartans 33 = .ok (.getfield 19, 3) := zdcg 19 zdT_dX5_makeCartans_0 rfl
theorem dX5_makeCartans_36 : decode cX5_makeCartans 36 = .ok (.if_icmp .ge 37, 3) := zdcg 20 zdT_dX5_makeCartans_0 rfl
theorem dX5_makeCartans_39 : decode cX5_makeCartans 39 = .ok (.aload_n 0, 1) := zdcg 21 zdT_dX5_makeCartans_0 rfl
theorem dX5_makeCartans_40 : decode cX5_makeCartans 40 = .ok (.getfield 52, 3) := zdcg 22 zdT_dX5_makeCartans_0 rfl
theorem dX5_makeCartans_43 : decode cX5_makeCartans 43 = .ok (.iload_n 2, 1) := zdcg 23 zdT_dX5_makeCartans_0 rfl
theorem dX5_makeCartans_44 : decode cX5_makeCartans 44 = .ok (.aaload, 1) := zdcg 24 zdT_dX5_makeCartans_0 rfl
theorem zdT_dX5_makeCartans_45 : zdch cX5_makeCartans [(45, (.iload_n 3, 1)), (46, (.dup2, 1)), (47, (.iaload, 1)), (48, (.aload_n 0, 1)), (49, (.getfield 46, 3)), (52, (.iload_n 1, 1)), (53, (.aaload, 1)), (54, (.iload_n 2, 1)), (55, (.iaload, 1)), (56, (.aload_n 0, 1)), (57, (.getfield 46, 3)), (60, (.iload_n 1, 1)), (61, (.aaload, 1)), (62, (.iload_n 3, 1)), (63, (.iaload, 1)), (64, (.imul, 1)), (65, (.iadd, 1)), (66, (.iastore, 1)), (67, (.iinc 3 1, 3)), (70, (.goto (-42), 3)), (73, (.iinc 2 1, 3)), (76, (.goto (-61), 3)), (79, (.iinc 1 1, 3)), (82, (.goto (-80), 3)), (85, (.return_, 1))] = true := by decide +kernel
theorem dX5_makeCartans_45 : decode cX5_makeCartans 45 = .ok (.iload_n 3, 1) := zdcg 0 zdT_dX5_makeCartans_45 rfl
theorem dX5_makeCartans_46 : decode cX5_makeCartans 46 = .ok (.dup2, 1) := zdcg 1 zdT_dX5_makeCartans_45 rfl
theorem dX5_makeCartans_47 : decode cX5_makeCartans 47 = .ok (.iaload, 1) := zdcg 2 zdT_dX5_makeCartans_45 rfl
theorem dX5_makeCartans_48 : decode cX5_makeCartans 48 = .ok (.aload_n 0, 1) := zdcg 3 zdT_dX5_makeCartans_45 rfl
theorem dX5_makeCartans_49 : decode cX5_makeCartans 49 = .ok (.getfield 46, 3) := zdcg 4 zdT_dX5_makeCartans_45 rfl
theorem dX5_makeCartans_52 : decode cX5_makeCartans 52 = .ok (.iload_n 1, 1) := zdcg 5 zdT_dX5_makeCartans_45 rfl
theorem dX5_makeCartans_53 : decode cX5_makeCartans 53 = .ok (.aaload, 1) := zdcg 6 zdT_dX5_makeCartans_45 rfl
theorem dX5_makeCartans_54 : decode cX5_makeCartans 54 = .ok (.iload_n 2, 1) := zdcg 7 zdT_dX5_makeCartans_45 rfl
theorem dX5_makeCartans_55 : decode cX5_makeCartans 55 = .ok (.iaload, 1) := zdcg 8 zdT_dX5_makeCartans_45 rfl
theorem dX5_makeCartans_56 : decode cX5_makeCartans 56 = .ok (.aload_n 0, 1) := zdcg 9 zdT_dX5_makeCartans_45 rfl
theorem dX5_makeCartans_57 : decode cX5_makeCartans 57 = .ok (.getfield 46, 3) := zdcg 10 zdT_dX5_makeCartans_45 rfl
theorem dX5_makeCartans_60 : decode cX5_makeCartans 60 = .ok (.iload_n 1, 1) := zdcg 11 zdT_dX5_makeCartans_45 rfl
theorem dX5_makeCartans_61 : decode cX5_makeCartans 61 = .ok (.aaload, 1) := zdcg 12 zdT_dX5_makeCartans_45 rfl
theorem dX5_makeCartans_62 : decode cX5_makeCartans 62 = .ok (.iload_n 3, 1) := zdcg 13 zdT_dX5_makeCartans_45 rfl
theorem dX5_makeCartans_63 : decode cX5_makeCartans 63 = .ok (.iaload, 1) := zdcg 14 zdT_dX5_makeCartans_45 rfl
theorem dX5_makeCartans_64 : decode cX5_makeCartans 64 = .ok (.imul, 1) := zdcg 15 zdT_dX5_makeCartans_45 rfl
theorem dX5_makeCartans_65 : decode cX5_makeCartans 65 = .ok (.iadd, 1) := zdcg 16 zdT_dX5_makeCartans_45 rfl
theorem dX5_makeCartans_66 : decode cX5_makeCartans 66 = .ok (.iastore, 1) := zdcg 17 zdT_dX5_makeCartans_45 rfl
theorem dX5_makeCartans_67 : decode cX5_makeCartans 67 = .ok (.iinc 3 1, 3) := zdcg 18 zdT_dX5_makeCartans_45 rfl
theorem dX5_makeCartans_70 : decode cX5_makeCartans 70 = .ok (.goto (-42), 3) := zdcg 19 zdT_dX5_makeCartans_45 rfl
theorem dX5_makeCartans_73 : decode cX5_makeCartans 73 = .ok (.iinc 2 1, 3) := zdcg 20 zdT_dX5_makeCartans_45 rfl
theorem dX5_makeCartans_76 : decode cX5_makeCartans 76 = .ok (.goto (-61), 3) := zdcg 21 zdT_dX5_makeCartans_45 rfl
theorem dX5_makeCartans_79 : decode cX5_makeCartans 79 = .ok (.iinc 1 1, 3) := zdcg 22 zdT_dX5_makeCartans_45 rfl
theorem dX5_makeCartans_82 : decode cX5_makeCartans 82 = .ok (.goto (-80), 3) := zdcg 23 zdT_dX5_makeCartans_45 rfl
theorem dX5_makeCartans_85 : decode cX5_makeCartans 85 = .ok (.return_, 1) := zdcg 24 zdT_dX5_makeCartans_45 rfl
theorem zdT_dX5_makeProjectives_0 : zdch cX5_makeProjectives [(0, (.iconst 0, 1)), (1, (.istore_n 1, 1)), (2, (.iload_n 1, 1)), (3, (.aload_n 0, 1)), (4, (.getfield 9, 3)), (7, (.getfield 19, 3)), (10, (.if_icmp .ge 78, 3)), (13, (.iconst 0, 1)), (14, (.istore_n 2, 1)), (15, (.iload_n 2, 1)), (16, (.aload_n 0, 1)), (17, (.getfield 9, 3)), (20, (.getfield 19, 3)), (23, (.if_icmp .ge 59, 3)), (26, (.iconst 0, 1)), (27, (.istore_n 3, 1)), (28, (.iload_n 3, 1)), (29, (.aload_n 0, 1)), (30, (.getfield 9, 3)), (33, (.getfield 19, 3)), (36, (.if_icmp .ge 40, 3)), (39, (.aload_n 0, 1)), (40, (.getfield 55, 3)), (43, (.iload_n 2, 1)), (44, (.aaload, 1))] = true := by decide +kernel
theorem dX5_makeProjectives_0 : decode cX5_makeProjectives 0 = .ok (.iconst 0, 1) := zdcg 0 zdT_dX5_makeProjectives_0 rfl
theorem dX5_makeProjectives_1 : decode cX5_makeProjectives 1 = .ok (.istore_n 1, 1) := zdcg 1 zdT_dX5_makeProjectives_0 rfl
theorem dX5_makeProjectives_2 : decode cX5_makeProjectives 2 = .ok (.iload_n 1, 1) := zdcg 2 zdT_dX5_makeProjectives_0 rfl
theorem dX5_makeProjectives_3 : decode cX5_makeProjectives 3 = .ok (.aload_n 0, 1) := zdcg 3 zdT_dX5_makeProjectives_0 rfl
theorem dX5_makeProjectives_4 : decode cX5_makeProjectives 4 = .ok (.getfield 9, 3) := zdcg 4 zdT_dX5_makeProjectives_0 rfl
theorem dX5_makeProjectives_7 : decode cX5_makeProjectives 7 = .ok (.getfield 19, 3) := zdcg 5 zdT_dX5_makeProjectives_0 rfl
theorem dX5_makeProjectives_10 : decode cX5_makeProjectives 10 = .ok (.if_icmp .ge 78, 3) := zdcg 6 zdT_dX5_makeProjectives_0 rfl
theorem dX5_makeProjectives_13 : decode cX5_makeProjectives 13 = .ok (.iconst 0, 1) := zdcg 7 zdT_dX5_makeProjectives_0 rfl
theorem dX5_makeProjectives_14 : decode cX5_makeProjectives 14 = .ok (.istore_n 2, 1) := zdcg 8 zdT_dX5_makeProjectives_0 rfl
theorem dX5_makeProjectives_15 : decode cX5_makeProjectives 15 = .ok (.iload_n 2, 1) := zdcg 9 zdT_dX5_makeProjectives_0 rfl
theorem dX5_makeProjectives_16 : decode cX5_makeProjectives 16 = .ok (.aload_n 0, 1) := zdcg 10 zdT_dX5_makeProjectives_0 rfl
theorem dX5_makeProjectives_17 : decode cX5_makeProjectives 17 = .ok (.getfield 9, 3) := zdcg 11 zdT_dX5_makeProjectives_0 rfl
theorem dX5_makeProjectives_20 : decode cX5_makeProjectives 20 = .ok (.getfield 19, 3) := zdcg 12 zdT_dX5_makeProjectives_0 rfl
theorem dX5_makeProjectives_23 : decode cX5_makeProjectives 23 = .ok (.if_icmp .ge 59, 3) := zdcg 13 zdT_dX5_makeProjectives_0 rfl
theorem dX5_makeProjectives_26 : decode cX5_makeProjectives 26 = .ok (.iconst 0, 1) := zdcg 14 zdT_dX5_makeProjectives_0 rfl
theorem dX5_makeProjectives_27 : decode cX5_makeProjectives 27 = .ok (.istore_n 3, 1) := zdcg 15 zdT_dX5_makeProjectives_0 rfl
theorem dX5_makeProjectives_28 : decode cX5_makeProjectives 28 = .ok (.iload_n 3, 1) := zdcg 16 zdT_dX5_makeProjectives_0 rfl
theorem dX5_makeProjectives_29 : decode cX5_makeProjectives 29 = .ok (.aload_n 0, 1) := zdcg 17 zdT_dX5_makeProjectives_0 rfl
theorem dX5_makeProjectives_30 : decode cX5_makeProjectives 30 = .ok (.getfield 9, 3) := zdcg 18 zdT_dX5_makeProjectives_0 rfl
theorem dX5_makeProjectives_33 : decode cX5_makeProjectives 33 = .ok (.getfield 19, 3) := zdcg 19 zdT_dX5_makeProjectives_0 rfl
theorem dX5_makeProjectives_36 : decode cX5_makeProjectives 36 = .ok (.if_icmp .ge 40, 3) := zdcg 20 zdT_dX5_makeProjectives_0 rfl
theorem dX5_makeProjectives_39 : decode cX5_makeProjectives 39 = .ok (.aload_n 0, 1) := zdcg 21 zdT_dX5_makeProjectives_0 rfl
theorem dX5_makeProjectives_40 : decode cX5_makeProjectives 40 = .ok (.getfield 55, 3) := zdcg 22 zdT_dX5_makeProjectives_0 rfl
theorem dX5_makeProjectives_43 : decode cX5_makeProjectives 43 = .ok (.iload_n 2, 1) := zdcg 23 zdT_dX5_makeProjectives_0 rfl
theorem dX5_makeProjectives_44 : decode cX5_makeProjectives 44 = .ok (.aaload, 1) := zdcg 24 zdT_dX5_makeProjectives_0 rfl
theorem zdT_dX5_makeProjectives_45 : zdch cX5_makeProjectives [(45, (.iload_n 3, 1)), (46, (.dup2, 1)), (47, (.iaload, 1)), (48, (.aload_n 0, 1)), (49, (.getfield 46, 3)), (52, (.iload_n 1, 1)), (53, (.aaload, 1)), (54, (.iload_n 2, 1)), (55, (.iaload, 1)), (56, (.aload_n 0, 1)), (57, (.getfield 9, 3)), (60, (.getfield 129, 3)), (63, (.iload_n 1, 1)), (64, (.aaload, 1)), (65, (.iload_n 3, 1)), (66, (.iaload, 1)), (67, (.imul, 1)), (68, (.iadd, 1)), (69, (.iastore, 1)), (70, (.iinc 3 1, 3)), (73, (.goto (-45), 3)), (76, (.iinc 2 1, 3)), (79, (.goto (-64), 3)), (82, (.iinc 1 1, 3)), (85, (.goto (-83), 3))] = true := by decide +kernel
theorem dX5_makeProjectives_45 : decode cX5_makeProjectives 45 = .ok (.iload_n 3, 1) := zdcg 0 zdT_dX5_makeProjectives_45 rfl
theorem dX5_makeProjectives_46 : decode cX5_makeProjectives 46 = .ok (.dup2, 1) := zdcg 1 zdT_dX5_makeProjectives_45 rfl
theorem dX5_makeProjectives_47 : decode cX5_makeProjectives 47 = .ok (.iaload, 1) := zdcg 2 zdT_dX5_makeProjectives_45 rfl
theorem dX5_makeProjectives_48 : decode cX5_makeProjectives 48 = .ok (.aload_n 0, 1) := zdcg 3 zdT_dX5_makeProjectives_45 rfl
theorem dX5_makeProjectives_49 : decode cX5_makeProjectives 49 = .ok (.getfield 46, 3) := zdcg 4 zdT_dX5_makeProjectives_45 rfl
theorem dX5_makeProjectives_52 : decode cX5_makeProjectives 52 = .ok (.iload_n 1, 1) := zdcg 5 zdT_dX5_makeProjectives_45 rfl
theorem dX5_makeProjectives_53 : decode cX5_makeProjectives 53 = .ok (.aaload, 1) := zdcg 6 zdT_dX5_makeProjectives_45 rfl
theorem dX5_makeProjectives_54 : decode cX5_makeProjectives 54 = .ok (.iload_n 2, 1) := zdcg 7 zdT_dX5_makeProjectives_45 rfl
theorem dX5_makeProjectives_55 : decode cX5_makeProjectives 55 = .ok (.iaload, 1) := zdcg 8 zdT_dX5_makeProjectives_45 rfl
theorem dX5_makeProjectives_56 : decode cX5_makeProjectives 56 = .ok (.aload_n 0, 1) := zdcg 9 zdT_dX5_makeProjectives_45 rfl
theorem dX5_makeProjectives_57 : decode cX5_makeProjectives 57 = .ok (.getfield 9, 3) := zdcg 10 zdT_dX5_makeProjectives_45 rfl
theorem dX5_makeProjectives_60 : decode cX5_makeProjectives 60 = .ok (.getfield 129, 3) := zdcg 11 zdT_dX5_makeProjectives_45 rfl
theorem dX5_makeProjectives_63 : decode cX5_makeProjectives 63 = .ok (.iload_n 1, 1) := zdcg 12 zdT_dX5_makeProjectives_45 rfl
theorem dX5_makeProjectives_64 : decode cX5_makeProjectives 64 = .ok (.aaload, 1) := zdcg 13 zdT_dX5_makeProjectives_45 rfl
theorem dX5_makeProjectives_65 : decode cX5_makeProjectives 65 = .ok (.iload_n 3, 1) := zdcg 14 zdT_dX5_makeProjectives_45 rfl
theorem dX5_makeProjectives_66 : decode cX5_makeProjectives 66 = .ok (.iaload, 1) := zdcg 15 zdT_dX5_makeProjectives_45 rfl
theorem dX5_makeProjectives_67 : decode cX5_makeProjectives 67 = .ok (.imul, 1) := zdcg 16 zdT_dX5_makeProjectives_45 rfl
theorem dX5_makeProjectives_68 : decode cX5_makeProjectives 68 = .ok (.iadd, 1) := zdcg 17 zdT_dX5_makeProjectives_45 rfl
theorem dX5_makeProjectives_69 : decode cX5_makeProjectives 69 = .ok (.iastore, 1) := zdcg 18 zdT_dX5_makeProjectives_45 rfl
theorem dX5_makeProjectives_70 : decode cX5_makeProjectives 70 = .ok (.iinc 3 1, 3) := zdcg 19 zdT_dX5_makeProjectives_45 rfl
theorem dX5_makeProjectives_73 : decode cX5_makeProjectives 73 = .ok (.goto (-45), 3) := zdcg 20 zdT_dX5_makeProjectives_45 rfl
theorem dX5_makeProjectives_76 : decode cX5_makeProjectives 76 = .ok (.iinc 2 1, 3) := zdcg 21 zdT_dX5_makeProjectives_45 rfl
theorem dX5_makeProjectives_79 : decode cX5_makeProjectives 79 = .ok (.goto (-64), 3) := zdcg 22 zdT_dX5_makeProjectives_45 rfl
theorem dX5_makeProjectives_82 : decode cX5_makeProjectives 82 = .ok (.iinc 1 1, 3) := zdcg 23 zdT_dX5_makeProjectives_45 rfl
theorem dX5_makeProjectives_85 : decode cX5_makeProjectives 85 = .ok (.goto (-83), 3) := zdcg 24 zdT_dX5_makeProjectives_45 rfl
theorem zdT_dX5_makeProjectives_88 : zdch cX5_makeProjectives [(88, (.return_, 1))] = true := by decide +kernel
theorem dX5_makeProjectives_88 : decode cX5_makeProjectives 88 = .ok (.return_, 1) := zdcg 0 zdT_dX5_makeProjectives_88 rfl
theorem zdT_dX5_makeDeterminants_0 : zdch cX5_makeDeterminants [(0, (.aload_n 0, 1)), (1, (.getfield 89, 3)), (4, (.aload_n 0, 1)), (5, (.getfield 89, 3)), (8, (.multianewarray 168 2, 4)), (12, (.astore_n 1, 1)), (13, (.aload_n 0, 1)), (14, (.getfield 89, 3)), (17, (.newarray .int, 2)), (19, (.astore_n 2, 1)), (20, (.iconst 0, 1)), (21, (.istore_n 3, 1)), (22, (.iload_n 3, 1)), (23, (.aload_n 0, 1)), (24, (.getfield 69, 3)), (27, (.getfield 73, 3)), (30, (.if_icmp .ge 132, 3)), (33, (.iconst 0, 1)), (34, (.istore 4, 2)), (36, (.iconst 0, 1)), (37, (.istore 5, 2)), (39, (.iload 5, 2)), (41, (.aload_n 0, 1)), (42, (.getfield 9, 3)), (45, (.getfield 19, 3))] = true := by decide +kernel
theorem dX5_makeDeterminants_0 : decode cX5_makeDeterminants 0 = .ok (.aload_n 0, 1) := zdcg 0 zdT_dX5_makeDeterminants_0 rfl
theorem dX5_makeDeterminants_1 : decode cX5_makeDeterminants 1 = .ok (.getfield 89, 3) := zdcg 1 zdT_dX5_makeDeterminants_0 rfl
theorem dX5_makeDeterminants_4 : decode cX5_makeDeterminants 4 = .ok (.aload_n 0, 1) := zdcg 2 zdT_dX5_makeDeterminants_0 rfl
theorem dX5_makeDeterminants_5 : decode cX5_makeDeterminants 5 = .ok (.getfield 89, 3) := zdcg 3 zdT_dX5_makeDeterminants_0 rfl
theorem dX5_makeDeterminants_8 : decode cX5_makeDeterminants 8 = .ok (.multianewarray 168 2, 4) := zdcg 4 zdT_dX5_makeDeterminants_0 rfl
theorem dX5_makeDeterminants_12 : decode cX5_makeDeterminants 12 = .ok (.astore_n 1, 1) := zdcg 5 zdT_dX5_makeDeterminants_0 rfl
theorem dX5_makeDeterminants_13 : decode cX5_makeDeterminants 13 = .ok (.aload_n 0, 1) := zdcg 6 zdT_dX5_makeDeterminants_0 rfl
theorem dX5_makeDeterminants_14 : decode cX5_makeDeterminants 14 = .ok (.getfield 89, 3) := zdcg 7 zdT_dX5_makeDeterminants_0 rfl
theorem dX5_makeDeterminants_17 : decode cX5_makeDeterminants 17 = .ok (.newarray .int, 2) := zdcg 8 zdT_dX5_makeDeterminants_0 rfl
theorem dX5_makeDeterminants_19 : decode cX5_makeDeterminants 19 = .ok (.astore_n 2, 1) := zdcg 9 zdT_dX5_makeDeterminants_0 rfl
theorem dX5_makeDeterminants_20 : decode cX5_makeDeterminants 20 = .ok (.iconst 0, 1) := zdcg 10 zdT_dX5_makeDeterminants_0 rfl
theorem dX5_makeDeterminants_21 : decode cX5_makeDeterminants 21 = .ok (.istore_n 3, 1) := zdcg 11 zdT_dX5_makeDeterminants_0 rfl
theorem dX5_makeDeterminants_22 : decode cX5_makeDeterminants 22 = .ok (.iload_n 3, 1) := zdcg 12 zdT_dX5_makeDeterminants_0 rfl
theorem dX5_makeDeterminants_23 : decode cX5_makeDeterminants 23 = .ok (.aload_n 0, 1) := zdcg 13 zdT_dX5_makeDeterminants_0 rfl
theorem dX5_makeDeterminants_24 : decode cX5_makeDeterminants 24 = .ok (.getfield 69, 3) := zdcg 14 zdT_dX5_makeDeterminants_0 rfl
theorem dX5_makeDeterminants_27 : decode cX5_makeDeterminants 27 = .ok (.getfield 73, 3) := zdcg 15 zdT_dX5_makeDeterminants_0 rfl
theorem dX5_makeDeterminants_30 : decode cX5_makeDeterminants 30 = .ok (.if_icmp .ge 132, 3) := zdcg 16 zdT_dX5_makeDeterminants_0 rfl
theorem dX5_makeDeterminants_33 : decode cX5_makeDeterminants 33 = .ok (.iconst 0, 1) := zdcg 17 zdT_dX5_makeDeterminants_0 rfl
theorem dX5_makeDeterminants_34 : decode cX5_makeDeterminants 34 = .ok (.istore 4, 2) := zdcg 18 zdT_dX5_makeDeterminants_0 rfl
theorem dX5_makeDeterminants_36 : decode cX5_makeDeterminants 36 = .ok (.iconst 0, 1) := zdcg 19 zdT_dX5_makeDeterminants_0 rfl
theorem dX5_makeDeterminants_37 : decode cX5_makeDeterminants 37 = .ok (.istore 5, 2) := zdcg 20 zdT_dX5_makeDeterminants_0 rfl
theorem dX5_makeDeterminants_39 : decode cX5_makeDeterminants 39 = .ok (.iload 5, 2) := zdcg 21 zdT_dX5_makeDeterminants_0 rfl
theorem dX5_makeDeterminants_41 : decode cX5_makeDeterminants 41 = .ok (.aload_n 0, 1) := zdcg 22 zdT_dX5_makeDeterminants_0 rfl
theorem dX5_makeDeterminants_42 : decode cX5_makeDeterminants 42 = .ok (.getfield 9, 3) := zdcg 23 zdT_dX5_makeDeterminants_0 rfl
theorem dX5_makeDeterminants_45 : decode cX5_makeDeterminants 45 = .ok (.getfield 19, 3) := zdcg 24 zdT_dX5_makeDeterminants_0 rfl
theorem zdT_dX5_makeDeterminants_48 : zdch cX5_makeDeterminants [(48, (.if_icmp .ge 41, 3)), (51, (.aload_n 0, 1)), (52, (.iload 5, 2)), (54, (.invokevirtual 117, 3)), (57, (.ifCond .eq 26, 3)), (60, (.aload_n 0, 1)), (61, (.getfield 69, 3)), (64, (.getfield 170, 3)), (67, (.iload 5, 2)), (69, (.iaload, 1)), (70, (.iload_n 3, 1)), (71, (.if_icmp .ne 12, 3)), (74, (.aload_n 2, 1)), (75, (.iload 4, 2)), (77, (.iload 5, 2)), (79, (.iastore, 1)), (80, (.iinc 4 1, 3)), (83, (.iinc 5 1, 3)), (86, (.goto (-47), 3)), (89, (.iconst 0, 1)), (90, (.istore 5, 2)), (92, (.iload 5, 2)), (94, (.iload 4, 2)), (96, (.if_icmp .ge 47, 3)), (99, (.iconst 0, 1))] = true := by decide +kernel
theorem dX5_makeDeterminants_48 : decode cX5_makeDeterminants 48 = .ok (.if_icmp .ge 41, 3) := zdcg 0 zdT_dX5_makeDeterminants_48 rfl
theorem dX5_makeDeterminants_51 : decode cX5_makeDeterminants 51 = .ok (.aload_n 0, 1) := zdcg 1 zdT_dX5_makeDeterminants_48 rfl
theorem dX5_makeDeterminants_52 : decode cX5_makeDeterminants 52 = .ok (.iload 5, 2) := zdcg 2 zdT_dX5_makeDeterminants_48 rfl
theorem dX5_makeDeterminants_54 : decode cX5_makeDeterminants 54 = .ok (.invokevirtual 117, 3) := zdcg 3 zdT_dX5_makeDeterminants_48 rfl
theorem dX5_makeDeterminants_57 : decode cX5_makeDeterminants 57 = .ok (.ifCond .eq 26, 3) := zdcg 4 zdT_dX5_makeDeterminants_48 rfl
theorem dX5_makeDeterminants_60 : decode cX5_makeDeterminants 60 = .ok (.aload_n 0, 1) := zdcg 5 zdT_dX5_makeDeterminants_48 rfl
theorem dX5_makeDeterminants_61 : decode cX5_makeDeterminants 61 = .ok (.getfield 69, 3) := zdcg 6 zdT_dX5_makeDeterminants_48 rfl
theorem dX5_makeDeterminants_64 : decode cX5_makeDeterminants 64 = .ok (.getfield 170, 3) := zdcg 7 zdT_dX5_makeDeterminants_48 rfl
theorem dX5_makeDeterminants_67 : decode cX5_makeDeterminants 67 = .ok (.iload 5, 2) := zdcg 8 zdT_dX5_makeDeterminants_48 rfl
theorem dX5_makeDeterminants_69 : decode cX5_makeDeterminants 69 = .ok (.iaload, 1) := zdcg 9 zdT_dX5_makeDeterminants_48 rfl
theorem dX5_makeDeterminants_70 : decode cX5_makeDeterminants 70 = .ok (.iload_n 3, 1) := zdcg 10 zdT_dX5_makeDeterminants_48 rfl
theorem dX5_makeDeterminants_71 : decode cX5_makeDeterminants 71 = .ok (.if_icmp .ne 12, 3) := zdcg 11 zdT_dX5_makeDeterminants_48 rfl
theorem dX5_makeDeterminants_74 : decode cX5_makeDeterminants 74 = .ok (.aload_n 2, 1) := zdcg 12 zdT_dX5_makeDeterminants_48 rfl
theorem dX5_makeDeterminants_75 : decode cX5_makeDeterminants 75 = .ok (.iload 4, 2) := zdcg 13 zdT_dX5_makeDeterminants_48 rfl
theorem dX5_makeDeterminants_77 : decode cX5_makeDeterminants 77 = .ok (.iload 5, 2) := zdcg 14 zdT_dX5_makeDeterminants_48 rfl
theorem dX5_makeDeterminants_79 : decode cX5_makeDeterminants 79 = .ok (.iastore, 1) := zdcg 15 zdT_dX5_makeDeterminants_48 rfl
theorem dX5_makeDeterminants_80 : decode cX5_makeDeterminants 80 = .ok (.iinc 4 1, 3) := zdcg 16 zdT_dX5_makeDeterminants_48 rfl
theorem dX5_makeDeterminants_83 : decode cX5_makeDeterminants 83 = .ok (.iinc 5 1, 3) := zdcg 17 zdT_dX5_makeDeterminants_48 rfl
theorem dX5_makeDeterminants_86 : decode cX5_makeDeterminants 86 = .ok (.goto (-47), 3) := zdcg 18 zdT_dX5_makeDeterminants_48 rfl
theorem dX5_makeDeterminants_89 : decode cX5_makeDeterminants 89 = .ok (.iconst 0, 1) := zdcg 19 zdT_dX5_makeDeterminants_48 rfl
theorem dX5_makeDeterminants_90 : decode cX5_makeDeterminants 90 = .ok (.istore 5, 2) := zdcg 20 zdT_dX5_makeDeterminants_48 rfl
theorem dX5_makeDeterminants_92 : decode cX5_makeDeterminants 92 = .ok (.iload 5, 2) := zdcg 21 zdT_dX5_makeDeterminants_48 rfl
theorem dX5_makeDeterminants_94 : decode cX5_makeDeterminants 94 = .ok (.iload 4, 2) := zdcg 22 zdT_dX5_makeDeterminants_48 rfl
theorem dX5_makeDeterminants_96 : decode cX5_makeDeterminants 96 = .ok (.if_icmp .ge 47, 3) := zdcg 23 zdT_dX5_makeDeterminants_48 rfl
theorem dX5_makeDeterminants_99 : decode cX5_makeDeterminants 99 = .ok (.iconst 0, 1) := zdcg 24 zdT_dX5_makeDeterminants_48 rfl
theorem zdT_dX5_makeDeterminants_100 : zdch cX5_makeDeterminants [(100, (.istore 6, 2)), (102, (.iload 6, 2)), (104, (.iload 4, 2)), (106, (.if_icmp .ge 31, 3)), (109, (.aload_n 1, 1)), (110, (.iload 5, 2)), (112, (.aaload, 1)), (113, (.iload 6, 2)), (115, (.aload_n 0, 1)), (116, (.getfield 52, 3)), (119, (.aload_n 2, 1)), (120, (.iload 5, 2)), (122, (.iaload, 1)), (123, (.aaload, 1)), (124, (.aload_n 2, 1)), (125, (.iload 6, 2)), (127, (.iaload, 1)), (128, (.iaload, 1)), (129, (.i2l, 1)), (130, (.lastore, 1)), (131, (.iinc 6 1, 3)), (134, (.goto (-32), 3)), (137, (.iinc 5 1, 3)), (140, (.goto (-48), 3)), (143, (.aload_n 0, 1))] = true := by decide +kernel
theorem dX5_makeDeterminants_100 : decode cX5_makeDeterminants 100 = .ok (.istore 6, 2) := zdcg 0 zdT_dX5_makeDeterminants_100 rfl
theorem dX5_makeDeterminants_102 : decode cX5_makeDeterminants 102 = .ok (.iload 6, 2) := zdcg 1 zdT_dX5_makeDeterminants_100 rfl
theorem dX5_makeDeterminants_104 : decode cX5_makeDeterminants 104 = .ok (.iload 4, 2) := zdcg 2 zdT_dX5_makeDeterminants_100 rfl
theorem dX5_makeDeterminants_106 : decode cX5_makeDeterminants 106 = .ok (.if_icmp .ge 31, 3) := zdcg 3 zdT_dX5_makeDeterminants_100 rfl
theorem dX5_makeDeterminants_109 : decode cX5_makeDeterminants 109 = .ok (.aload_n 1, 1) := zdcg 4 zdT_dX5_makeDeterminants_100 rfl
theorem dX5_makeDeterminants_110 : decode cX5_makeDeterminants 110 = .ok (.iload 5, 2) := zdcg 5 zdT_dX5_makeDeterminants_100 rfl
theorem dX5_makeDeterminants_112 : decode cX5_makeDeterminants 112 = .ok (.aaload, 1) := zdcg 6 zdT_dX5_makeDeterminants_100 rfl
theorem dX5_makeDeterminants_113 : decode cX5_makeDeterminants 113 = .ok (.iload 6, 2) := zdcg 7 zdT_dX5_makeDeterminants_100 rfl
theorem dX5_makeDeterminants_115 : decode cX5_makeDeterminants 115 = .ok (.aload_n 0, 1) := zdcg 8 zdT_dX5_makeDeterminants_100 rfl
theorem dX5_makeDeterminants_116 : decode cX5_makeDeterminants 116 = .ok (.getfield 52, 3) := zdcg 9 zdT_dX5_makeDeterminants_100 rfl
theorem dX5_makeDeterminants_119 : decode cX5_makeDeterminants 119 = .ok (.aload_n 2, 1) := zdcg 10 zdT_dX5_makeDeterminants_100 rfl
theorem dX5_makeDeterminants_120 : decode cX5_makeDeterminants 120 = .ok (.iload 5, 2) := zdcg 11 zdT_dX5_makeDeterminants_100 rfl
theorem dX5_makeDeterminants_122 : decode cX5_makeDeterminants 122 = .ok (.iaload, 1) := zdcg 12 zdT_dX5_makeDeterminants_100 rfl
theorem dX5_makeDeterminants_123 : decode cX5_makeDeterminants 123 = .ok (.aaload, 1) := zdcg 13 zdT_dX5_makeDeterminants_100 rfl
theorem dX5_makeDeterminants_124 : decode cX5_makeDeterminants 124 = .ok (.aload_n 2, 1) := zdcg 14 zdT_dX5_makeDeterminants_100 rfl
theorem dX5_makeDeterminants_125 : decode cX5_makeDeterminants 125 = .ok (.iload 6, 2) := zdcg 15 zdT_dX5_makeDeterminants_100 rfl
theorem dX5_makeDeterminants_127 : decode cX5_makeDeterminants 127 = .ok (.iaload, 1) := zdcg 16 zdT_dX5_makeDeterminants_100 rfl
theorem dX5_makeDeterminants_128 : decode cX5_makeDeterminants 128 = .ok (.iaload, 1) := zdcg 17 zdT_dX5_makeDeterminants_100 rfl
theorem dX5_makeDeterminants_129 : decode cX5_makeDeterminants 129 = .ok (.i2l, 1) := zdcg 18 zdT_dX5_makeDeterminants_100 rfl
theorem dX5_makeDeterminants_130 : decode cX5_makeDeterminants 130 = .ok (.lastore, 1) := zdcg 19 zdT_dX5_makeDeterminants_100 rfl
theorem dX5_makeDeterminants_131 : decode cX5_makeDeterminants 131 = .ok (.iinc 6 1, 3) := zdcg 20 zdT_dX5_makeDeterminants_100 rfl
theorem dX5_makeDeterminants_134 : decode cX5_makeDeterminants 134 = .ok (.goto (-32), 3) := zdcg 21 zdT_dX5_makeDeterminants_100 rfl
theorem dX5_makeDeterminants_137 : decode cX5_makeDeterminants 137 = .ok (.iinc 5 1, 3) := zdcg 22 zdT_dX5_makeDeterminants_100 rfl
theorem dX5_makeDeterminants_140 : decode cX5_makeDeterminants 140 = .ok (.goto (-48), 3) := zdcg 23 zdT_dX5_makeDeterminants_100 rfl
theorem dX5_makeDeterminants_143 : decode cX5_makeDeterminants 143 = .ok (.aload_n 0, 1) := zdcg 24 zdT_dX5_makeDeterminants_100 rfl
theorem zdT_dX5_makeDeterminants_144 : zdch cX5_makeDeterminants [(144, (.getfield 74, 3)), (147, (.iload_n 3, 1)), (148, (.aload_n 1, 1)), (149, (.iload 4, 2)), (151, (.invokestatic 173, 3)), (154, (.l2i, 1)), (155, (.iastore, 1)), (156, (.iinc 3 1, 3)), (159, (.goto (-137), 3)), (162, (.return_, 1))] = true := by decide +kernel
theorem dX5_makeDeterminants_144 : decode cX5_makeDeterminants 144 = .ok (.getfield 74, 3) := zdcg 0 zdT_dX5_makeDeterminants_144 rfl
theorem dX5_makeDeterminants_147 : decode cX5_makeDeterminants 147 = .ok (.iload_n 3, 1) := zdcg 1 zdT_dX5_makeDeterminants_144 rfl
theorem dX5_makeDeterminants_148 : decode cX5_makeDeterminants 148 = .ok (.aload_n 1, 1) := zdcg 2 zdT_dX5_makeDeterminants_144 rfl
theorem dX5_makeDeterminants_149 : decode cX5_makeDeterminants 149 = .ok (.iload 4, 2) := zdcg 3 zdT_dX5_makeDeterminants_144 rfl
theorem dX5_makeDeterminants_151 : decode cX5_makeDeterminants 151 = .ok (.invokestatic 173, 3) := zdcg 4 zdT_dX5_makeDeterminants_144 rfl
theorem dX5_makeDeterminants_154 : decode cX5_makeDeterminants 154 = .ok (.l2i, 1) := zdcg 5 zdT_dX5_makeDeterminants_144 rfl
theorem dX5_makeDeterminants_155 : decode cX5_makeDeterminants 155 = .ok (.iastore, 1) := zdcg 6 zdT_dX5_makeDeterminants_144 rfl
theorem dX5_makeDeterminants_156 : decode cX5_makeDeterminants 156 = .ok (.iinc 3 1, 3) := zdcg 7 zdT_dX5_makeDeterminants_144 rfl
theorem dX5_makeDeterminants_159 : decode cX5_makeDeterminants 159 = .ok (.goto (-137), 3) := zdcg 8 zdT_dX5_makeDeterminants_144 rfl
theorem dX5_makeDeterminants_162 : decode cX5_makeDeterminants 162 = .ok (.return_, 1) := zdcg 9 zdT_dX5_makeDeterminants_144 rfl
theorem zdT_dX5_determinant_0 : zdch cX5_determinant [(0, (.lconst 1, 1)), (1, (.lstore_n 2, 1)), (2, (.iconst 0, 1)), (3, (.istore 4, 2)), (5, (.iload 4, 2)), (7, (.iconst 1, 1)), (8, (.iadd, 1)), (9, (.iload_n 1, 1)), (10, (.if_icmp .ge 107, 3)), (13, (.iload 4, 2)), (15, (.iconst 1, 1)), (16, (.iadd, 1)), (17, (.istore 5, 2)), (19, (.iload 5, 2)), (21, (.iload_n 1, 1)), (22, (.if_icmp .ge 81, 3)), (25, (.iload 4, 2)), (27, (.iconst 1, 1)), (28, (.iadd, 1)), (29, (.istore 6, 2)), (31, (.iload 6, 2)), (33, (.iload_n 1, 1)), (34, (.if_icmp .ge 63, 3)), (37, (.aload_n 0, 1)), (38, (.iload 5, 2))] = true := by decide +kernel
theorem dX5_determinant_0 : decode cX5_determinant 0 = .ok (.lconst 1, 1) := zdcg 0 zdT_dX5_determinant_0 rfl
theorem dX5_determinant_1 : decode cX5_determinant 1 = .ok (.lstore_n 2, 1) := zdcg 1 zdT_dX5_determinant_0 rfl
theorem dX5_determinant_2 : decode cX5_determinant 2 = .ok (.iconst 0, 1) := zdcg 2 zdT_dX5_determinant_0 rfl
theorem dX5_determinant_3 : decode cX5_determinant 3 = .ok (.istore 4, 2) := zdcg 3 zdT_dX5_determinant_0 rfl
theorem dX5_determinant_5 : decode cX5_determinant 5 = .ok (.iload 4, 2) := zdcg 4 zdT_dX5_determinant_0 rfl
theorem dX5_determinant_7 : decode cX5_determinant 7 = .ok (.iconst 1, 1) := zdcg 5 zdT_dX5_determinant_0 rfl
theorem dX5_determinant_8 : decode cX5_determinant 8 = .ok (.iadd, 1) := zdcg 6 zdT_dX5_determinant_0 rfl
theorem dX5_determinant_9 : decode cX5_determinant 9 = .ok (.iload_n 1, 1) := zdcg 7 zdT_dX5_determinant_0 rfl
theorem dX5_determinant_10 : decode cX5_determinant 10 = .ok (.if_icmp .ge 107, 3) := zdcg 8 zdT_dX5_determinant_0 rfl
theorem dX5_determinant_13 : decode cX5_determinant 13 = .ok (.iload 4, 2) := zdcg 9 zdT_dX5_determinant_0 rfl
theorem dX5_determinant_15 : decode cX5_determinant 15 = .ok (.iconst 1, 1) := zdcg 10 zdT_dX5_determinant_0 rfl
theorem dX5_determinant_16 : decode cX5_determinant 16 = .ok (.iadd, 1) := zdcg 11 zdT_dX5_determinant_0 rfl
theorem dX5_determinant_17 : decode cX5_determinant 17 = .ok (.istore 5, 2) := zdcg 12 zdT_dX5_determinant_0 rfl
theorem dX5_determinant_19 : decode cX5_determinant 19 = .ok (.iload 5, 2) := zdcg 13 zdT_dX5_determinant_0 rfl
theorem dX5_determinant_21 : decode cX5_determinant 21 = .ok (.iload_n 1, 1) := zdcg 14 zdT_dX5_determinant_0 rfl
theorem dX5_determinant_22 : decode cX5_determinant 22 = .ok (.if_icmp .ge 81, 3) := zdcg 15 zdT_dX5_determinant_0 rfl
theorem dX5_determinant_25 : decode cX5_determinant 25 = .ok (.iload 4, 2) := zdcg 16 zdT_dX5_determinant_0 rfl
theorem dX5_determinant_27 : decode cX5_determinant 27 = .ok (.iconst 1, 1) := zdcg 17 zdT_dX5_determinant_0 rfl
theorem dX5_determinant_28 : decode cX5_determinant 28 = .ok (.iadd, 1) := zdcg 18 zdT_dX5_determinant_0 rfl
theorem dX5_determinant_29 : decode cX5_determinant 29 = .ok (.istore 6, 2) := zdcg 19 zdT_dX5_determinant_0 rfl
theorem dX5_determinant_31 : decode cX5_determinant 31 = .ok (.iload 6, 2) := zdcg 20 zdT_dX5_determinant_0 rfl
theorem dX5_determinant_33 : decode cX5_determinant 33 = .ok (.iload_n 1, 1) := zdcg 21 zdT_dX5_determinant_0 rfl
theorem dX5_determinant_34 : decode cX5_determinant 34 = .ok (.if_icmp .ge 63, 3) := zdcg 22 zdT_dX5_determinant_0 rfl
theorem dX5_determinant_37 : decode cX5_determinant 37 = .ok (.aload_n 0, 1) := zdcg 23 zdT_dX5_determinant_0 rfl
theorem dX5_determinant_38 : decode cX5_determinant 38 = .ok (.iload 5, 2) := zdcg 24 zdT_dX5_determinant_0 rfl
theorem zdT_dX5_determinant_40 : zdch cX5_determinant [(40, (.aaload, 1)), (41, (.iload 6, 2)), (43, (.laload, 1)), (44, (.aload_n 0, 1)), (45, (.iload 4, 2)), (47, (.aaload, 1)), (48, (.iload 4, 2)), (50, (.laload, 1)), (51, (.lmul, 1)), (52, (.aload_n 0, 1)), (53, (.iload 5, 2)), (55, (.aaload, 1)), (56, (.iload 4, 2)), (58, (.laload, 1)), (59, (.aload_n 0, 1)), (60, (.iload 4, 2)), (62, (.aaload, 1)), (63, (.iload 6, 2)), (65, (.laload, 1)), (66, (.lmul, 1)), (67, (.lsub, 1)), (68, (.lstore 7, 2)), (70, (.aload_n 0, 1)), (71, (.iload 5, 2)), (73, (.aaload, 1))] = true := by decide +kernel
theorem dX5_determinant_40 : decode cX5_determinant 40 = .ok (.aaload, 1) := zdcg 0 zdT_dX5_determinant_40 rfl
theorem dX5_determinant_41 : decode cX5_determinant 41 = .ok (.iload 6, 2) := zdcg 1 zdT_dX5_determinant_40 rfl
theorem dX5_determinant_43 : decode cX5_determinant 43 = .ok (.laload, 1) := zdcg 2 zdT_dX5_determinant_40 rfl
theorem dX5_determinant_44 : decode cX5_determinant 44 = .ok (.aload_n 0, 1) := zdcg 3 zdT_dX5_determinant_40 rfl
theorem dX5_determinant_45 : decode cX5_determinant 45 = .ok (.iload 4, 2) := zdcg 4 zdT_dX5_determinant_40 rfl
theorem dX5_determinant_47 : decode cX5_determinant 47 = .ok (.aaload, 1) := zdcg 5 zdT_dX5_determinant_40 rfl
theorem dX5_determinant_48 : decode cX5_determinant 48 = .ok (.iload 4, 2) := zdcg 6 zdT_dX5_determinant_40 rfl
theorem dX5_determinant_50 : decode cX5_determinant 50 = .ok (.laload, 1) := zdcg 7 zdT_dX5_determinant_40 rfl
theorem dX5_determinant_51 : decode cX5_determinant 51 = .ok (.lmul, 1) := zdcg 8 zdT_dX5_determinant_40 rfl
theorem dX5_determinant_52 : decode cX5_determinant 52 = .ok (.aload_n 0, 1) := zdcg 9 zdT_dX5_determinant_40 rfl
theorem dX5_determinant_53 : decode cX5_determinant 53 = .ok (.iload 5, 2) := zdcg 10 zdT_dX5_determinant_40 rfl
theorem dX5_determinant_55 : decode cX5_determinant 55 = .ok (.aaload, 1) := zdcg 11 zdT_dX5_determinant_40 rfl
theorem dX5_determinant_56 : decode cX5_determinant 56 = .ok (.iload 4, 2) := zdcg 12 zdT_dX5_determinant_40 rfl
theorem dX5_determinant_58 : decode cX5_determinant 58 = .ok (.laload, 1) := zdcg 13 zdT_dX5_determinant_40 rfl
theorem dX5_determinant_59 : decode cX5_determinant 59 = .ok (.aload_n 0, 1) := zdcg 14 zdT_dX5_determinant_40 rfl
theorem dX5_determinant_60 : decode cX5_determinant 60 = .ok (.iload 4, 2) := zdcg 15 zdT_dX5_determinant_40 rfl
theorem dX5_determinant_62 : decode cX5_determinant 62 = .ok (.aaload, 1) := zdcg 16 zdT_dX5_determinant_40 rfl
theorem dX5_determinant_63 : decode cX5_determinant 63 = .ok (.iload 6, 2) := zdcg 17 zdT_dX5_determinant_40 rfl
theorem dX5_determinant_65 : decode cX5_determinant 65 = .ok (.laload, 1) := zdcg 18 zdT_dX5_determinant_40 rfl
theorem dX5_determinant_66 : decode cX5_determinant 66 = .ok (.lmul, 1) := zdcg 19 zdT_dX5_determinant_40 rfl
theorem dX5_determinant_67 : decode cX5_determinant 67 = .ok (.lsub, 1) := zdcg 20 zdT_dX5_determinant_40 rfl
theorem dX5_determinant_68 : decode cX5_determinant 68 = .ok (.lstore 7, 2) := zdcg 21 zdT_dX5_determinant_40 rfl
theorem dX5_determinant_70 : decode cX5_determinant 70 = .ok (.aload_n 0, 1) := zdcg 22 zdT_dX5_determinant_40 rfl
theorem dX5_determinant_71 : decode cX5_determinant 71 = .ok (.iload 5, 2) := zdcg 23 zdT_dX5_determinant_40 rfl
theorem dX5_determinant_73 : decode cX5_determinant 73 = .ok (.aaload, 1) := zdcg 24 zdT_dX5_determinant_40 rfl
theorem zdT_dX5_determinant_74 : zdch cX5_determinant [(74, (.iload 6, 2)), (76, (.lload_n 2, 1)), (77, (.lconst 0, 1)), (78, (.lcmp, 1)), (79, (.ifCond .eq 10, 3)), (82, (.lload 7, 2)), (84, (.lload_n 2, 1)), (85, (.ldiv, 1)), (86, (.goto 4, 3)), (89, (.lconst 0, 1)), (90, (.lastore, 1)), (91, (.iinc 6 1, 3)), (94, (.goto (-63), 3)), (97, (.iinc 5 1, 3)), (100, (.goto (-81), 3)), (103, (.aload_n 0, 1)), (104, (.iload 4, 2)), (106, (.aaload, 1)), (107, (.iload 4, 2)), (109, (.laload, 1)), (110, (.lstore_n 2, 1)), (111, (.iinc 4 1, 3)), (114, (.goto (-109), 3)), (117, (.iload_n 1, 1)), (118, (.ifCond .le 15, 3))] = true := by decide +kernel
theorem dX5_determinant_74 : decode cX5_determinant 74 = .ok (.iload 6, 2) := zdcg 0 zdT_dX5_determinant_74 rfl
theorem dX5_determinant_76 : decode cX5_determinant 76 = .ok (.lload_n 2, 1) := zdcg 1 zdT_dX5_determinant_74 rfl
theorem dX5_determinant_77 : decode cX5_determinant 77 = .ok (.lconst 0, 1) := zdcg 2 zdT_dX5_determinant_74 rfl
theorem dX5_determinant_78 : decode cX5_determinant 78 = .ok (.lcmp, 1) := zdcg 3 zdT_dX5_determinant_74 rfl
theorem dX5_determinant_79 : decode cX5_determinant 79 = .ok (.ifCond .eq 10, 3) := zdcg 4 zdT_dX5_determinant_74 rfl
theorem dX5_determinant_82 : decode cX5_determinant 82 = .ok (.lload 7, 2) := zdcg 5 zdT_dX5_determinant_74 rfl
theorem dX5_determinant_84 : decode cX5_determinant 84 = .ok (.lload_n 2, 1) := zdcg 6 zdT_dX5_determinant_74 rfl
theorem dX5_determinant_85 : decode cX5_determinant 85 = .ok (.ldiv, 1) := zdcg 7 zdT_dX5_determinant_74 rfl
theorem dX5_determinant_86 : decode cX5_determinant 86 = .ok (.goto 4, 3) := zdcg 8 zdT_dX5_determinant_74 rfl
theorem dX5_determinant_89 : decode cX5_determinant 89 = .ok (.lconst 0, 1) := zdcg 9 zdT_dX5_determinant_74 rfl
theorem dX5_determinant_90 : decode cX5_determinant 90 = .ok (.lastore, 1) := zdcg 10 zdT_dX5_determinant_74 rfl
theorem dX5_determinant_91 : decode cX5_determinant 91 = .ok (.iinc 6 1, 3) := zdcg 11 zdT_dX5_determinant_74 rfl
theorem dX5_determinant_94 : decode cX5_determinant 94 = .ok (.goto (-63), 3) := zdcg 12 zdT_dX5_determinant_74 rfl
theorem dX5_determinant_97 : decode cX5_determinant 97 = .ok (.iinc 5 1, 3) := zdcg 13 zdT_dX5_determinant_74 rfl
theorem dX5_determinant_100 : decode cX5_determinant 100 = .ok (.goto (-81), 3) := zdcg 14 zdT_dX5_determinant_74 rfl
theorem dX5_determinant_103 : decode cX5_determinant 103 = .ok (.aload_n 0, 1) := zdcg 15 zdT_dX5_determinant_74 rfl
theorem dX5_determinant_104 : decode cX5_determinant 104 = .ok (.iload 4, 2) := zdcg 16 zdT_dX5_determinant_74 rfl
theorem dX5_determinant_106 : decode cX5_determinant 106 = .ok (.aaload, 1) := zdcg 17 zdT_dX5_determinant_74 rfl
theorem dX5_determinant_107 : decode cX5_determinant 107 = .ok (.iload 4, 2) := zdcg 18 zdT_dX5_determinant_74 rfl
theorem dX5_determinant_109 : decode cX5_determinant 109 = .ok (.laload, 1) := zdcg 19 zdT_dX5_determinant_74 rfl
theorem dX5_determinant_110 : decode cX5_determinant 110 = .ok (.lstore_n 2, 1) := zdcg 20 zdT_dX5_determinant_74 rfl
theorem dX5_determinant_111 : decode cX5_determinant 111 = .ok (.iinc 4 1, 3) := zdcg 21 zdT_dX5_determinant_74 rfl
theorem dX5_determinant_114 : decode cX5_determinant 114 = .ok (.goto (-109), 3) := zdcg 22 zdT_dX5_determinant_74 rfl
theorem dX5_determinant_117 : decode cX5_determinant 117 = .ok (.iload_n 1, 1) := zdcg 23 zdT_dX5_determinant_74 rfl
theorem dX5_determinant_118 : decode cX5_determinant 118 = .ok (.ifCond .le 15, 3) := zdcg 24 zdT_dX5_determinant_74 rfl
theorem zdT_dX5_determinant_121 : zdch cX5_determinant [(121, (.aload_n 0, 1)), (122, (.iload_n 1, 1)), (123, (.iconst 1, 1)), (124, (.isub, 1)), (125, (.aaload, 1)), (126, (.iload_n 1, 1)), (127, (.iconst 1, 1)), (128, (.isub, 1)), (129, (.laload, 1)), (130, (.goto 4, 3)), (133, (.lconst 1, 1)), (134, (.lreturn, 1))] = true := by decide +kernel
theorem dX5_determinant_121 : decode cX5_determinant 121 = .ok (.aload_n 0, 1) := zdcg 0 zdT_dX5_determinant_121 rfl
theorem dX5_determinant_122 : decode cX5_determinant 122 = .ok (.iload_n 1, 1) := zdcg 1 zdT_dX5_determinant_121 rfl
theorem dX5_determinant_123 : decode cX5_determinant 123 = .ok (.iconst 1, 1) := zdcg 2 zdT_dX5_determinant_121 rfl
theorem dX5_determinant_124 : decode cX5_determinant 124 = .ok (.isub, 1) := zdcg 3 zdT_dX5_determinant_121 rfl
theorem dX5_determinant_125 : decode cX5_determinant 125 = .ok (.aaload, 1) := zdcg 4 zdT_dX5_determinant_121 rfl
theorem dX5_determinant_126 : decode cX5_determinant 126 = .ok (.iload_n 1, 1) := zdcg 5 zdT_dX5_determinant_121 rfl
theorem dX5_determinant_127 : decode cX5_determinant 127 = .ok (.iconst 1, 1) := zdcg 6 zdT_dX5_determinant_121 rfl
theorem dX5_determinant_128 : decode cX5_determinant 128 = .ok (.isub, 1) := zdcg 7 zdT_dX5_determinant_121 rfl
theorem dX5_determinant_129 : decode cX5_determinant 129 = .ok (.laload, 1) := zdcg 8 zdT_dX5_determinant_121 rfl
theorem dX5_determinant_130 : decode cX5_determinant 130 = .ok (.goto 4, 3) := zdcg 9 zdT_dX5_determinant_121 rfl
theorem dX5_determinant_133 : decode cX5_determinant 133 = .ok (.lconst 1, 1) := zdcg 10 zdT_dX5_determinant_121 rfl
theorem dX5_determinant_134 : decode cX5_determinant 134 = .ok (.lreturn, 1) := zdcg 11 zdT_dX5_determinant_121 rfl
theorem zdT_dX6_init_0 : zdch cX6_init [(0, (.aload_n 0, 1)), (1, (.invokespecial 1, 3)), (4, (.aload_n 0, 1)), (5, (.sipush 200, 3)), (8, (.newarray .int, 2)), (10, (.putfield 9, 3)), (13, (.return_, 1))] = true := by decide +kernel
theorem dX6_init_0 : decode cX6_init 0 = .ok (.aload_n 0, 1) := zdcg 0 zdT_dX6_init_0 rfl
theorem dX6_init_1 : decode cX6_init 1 = .ok (.invokespecial 1, 3) := zdcg 1 zdT_dX6_init_0 rfl
theorem dX6_init_4 : decode cX6_init 4 = .ok (.aload_n 0, 1) := zdcg 2 zdT_dX6_init_0 rfl
theorem dX6_init_5 : decode cX6_init 5 = .ok (.sipush 200, 3) := zdcg 3 zdT_dX6_init_0 rfl
theorem dX6_init_8 : decode cX6_init 8 = .ok (.newarray .int, 2) := zdcg 4 zdT_dX6_init_0 rfl
theorem dX6_init_10 : decode cX6_init 10 = .ok (.putfield 9, 3) := zdcg 5 zdT_dX6_init_0 rfl
theorem dX6_init_13 : decode cX6_init 13 = .ok (.return_, 1) := zdcg 6 zdT_dX6_init_0 rfl
theorem zdT_dX6_hasRoom_0 : zdch cX6_hasRoom [(0, (.aload_n 0, 1)), (1, (.getfield 13, 3)), (4, (.iload_n 1, 1)), (5, (.iadd, 1)), (6, (.sipush 200, 3)), (9, (.if_icmp .gt 7, 3)), (12, (.iconst 1, 1)), (13, (.goto 4, 3)), (16, (.iconst 0, 1)), (17, (.ireturn, 1))] = true := by decide +kernel
theorem dX6_hasRoom_0 : decode cX6_hasRoom 0 = .ok (.aload_n 0, 1) := zdcg 0 zdT_dX6_hasRoom_0 rfl
theorem dX6_hasRoom_1 : decode cX6_hasRoom 1 = .ok (.getfield 13, 3) := zdcg 1 zdT_dX6_hasRoom_0 rfl
theorem dX6_hasRoom_4 : decode cX6_hasRoom 4 = .ok (.iload_n 1, 1) := zdcg 2 zdT_dX6_hasRoom_0 rfl
theorem dX6_hasRoom_5 : decode cX6_hasRoom 5 = .ok (.iadd, 1) := zdcg 3 zdT_dX6_hasRoom_0 rfl
theorem dX6_hasRoom_6 : decode cX6_hasRoom 6 = .ok (.sipush 200, 3) := zdcg 4 zdT_dX6_hasRoom_0 rfl
theorem dX6_hasRoom_9 : decode cX6_hasRoom 9 = .ok (.if_icmp .gt 7, 3) := zdcg 5 zdT_dX6_hasRoom_0 rfl
theorem dX6_hasRoom_12 : decode cX6_hasRoom 12 = .ok (.iconst 1, 1) := zdcg 6 zdT_dX6_hasRoom_0 rfl
theorem dX6_hasRoom_13 : decode cX6_hasRoom 13 = .ok (.goto 4, 3) := zdcg 7 zdT_dX6_hasRoom_0 rfl
theorem dX6_hasRoom_16 : decode cX6_hasRoom 16 = .ok (.iconst 0, 1) := zdcg 8 zdT_dX6_hasRoom_0 rfl
theorem dX6_hasRoom_17 : decode cX6_hasRoom 17 = .ok (.ireturn, 1) := zdcg 9 zdT_dX6_hasRoom_0 rfl
theorem zdT_dX6_put_0 : zdch cX6_put [(0, (.bipush 24, 2)), (2, (.istore_n 2, 1)), (3, (.iload_n 2, 1)), (4, (.ifCond .lt 45, 3)), (7, (.aload_n 0, 1)), (8, (.getfield 13, 3)), (11, (.sipush 200, 3)), (14, (.if_icmp .ge 35, 3)), (17, (.aload_n 0, 1)), (18, (.getfield 9, 3)), (21, (.aload_n 0, 1)), (22, (.getfield 13, 3)), (25, (.iload_n 1, 1)), (26, (.iload_n 2, 1)), (27, (.ishr, 1)), (28, (.sipush 255, 3)), (31, (.iand, 1)), (32, (.iastore, 1)), (33, (.aload_n 0, 1)), (34, (.dup, 1)), (35, (.getfield 13, 3)), (38, (.iconst 1, 1)), (39, (.iadd, 1)), (40, (.putfield 13, 3)), (43, (.iinc 2 (-8), 3))] = true := by decide +kernel
theorem dX6_put_0 : decode cX6_put 0 = .ok (.bipush 24, 2) := zdcg 0 zdT_dX6_put_0 rfl
theorem dX6_put_2 : decode cX6_put 2 = .ok (.istore_n 2, 1) := zdcg 1 zdT_dX6_put_0 rfl
theorem dX6_put_3 : decode cX6_put 3 = .ok (.iload_n 2, 1) := zdcg 2 zdT_dX6_put_0 rfl
theorem dX6_put_4 : decode cX6_put 4 = .ok (.ifCond .lt 45, 3) := zdcg 3 zdT_dX6_put_0 rfl
theorem dX6_put_7 : decode cX6_put 7 = .ok (.aload_n 0, 1) := zdcg 4 zdT_dX6_put_0 rfl
theorem dX6_put_8 : decode cX6_put 8 = .ok (.getfield 13, 3) := zdcg 5 zdT_dX6_put_0 rfl
theorem dX6_put_11 : decode cX6_put 11 = .ok (.sipush 200, 3) := zdcg 6 zdT_dX6_put_0 rfl
theorem dX6_put_14 : decode cX6_put 14 = .ok (.if_icmp .ge 35, 3) := zdcg 7 zdT_dX6_put_0 rfl
theorem dX6_put_17 : decode cX6_put 17 = .ok (.aload_n 0, 1) := zdcg 8 zdT_dX6_put_0 rfl
theorem dX6_put_18 : decode cX6_put 18 = .ok (.getfield 9, 3) := zdcg 9 zdT_dX6_put_0 rfl
theorem dX6_put_21 : decode cX6_put 21 = .ok (.aload_n 0, 1) := zdcg 10 zdT_dX6_put_0 rfl
theorem dX6_put_22 : decode cX6_put 22 = .ok (.getfield 13, 3) := zdcg 11 zdT_dX6_put_0 rfl
theorem dX6_put_25 : decode cX6_put 25 = .ok (.iload_n 1, 1) := zdcg 12 zdT_dX6_put_0 rfl
theorem dX6_put_26 : decode cX6_put 26 = .ok (.iload_n 2, 1) := zdcg 13 zdT_dX6_put_0 rfl
theorem dX6_put_27 : decode cX6_put 27 = .ok (.ishr, 1) := zdcg 14 zdT_dX6_put_0 rfl
theorem dX6_put_28 : decode cX6_put 28 = .ok (.sipush 255, 3) := zdcg 15 zdT_dX6_put_0 rfl
theorem dX6_put_31 : decode cX6_put 31 = .ok (.iand, 1) := zdcg 16 zdT_dX6_put_0 rfl
theorem dX6_put_32 : decode cX6_put 32 = .ok (.iastore, 1) := zdcg 17 zdT_dX6_put_0 rfl
theorem dX6_put_33 : decode cX6_put 33 = .ok (.aload_n 0, 1) := zdcg 18 zdT_dX6_put_0 rfl
theorem dX6_put_34 : decode cX6_put 34 = .ok (.dup, 1) := zdcg 19 zdT_dX6_put_0 rfl
theorem dX6_put_35 : decode cX6_put 35 = .ok (.getfield 13, 3) := zdcg 20 zdT_dX6_put_0 rfl
theorem dX6_put_38 : decode cX6_put 38 = .ok (.iconst 1, 1) := zdcg 21 zdT_dX6_put_0 rfl
theorem dX6_put_39 : decode cX6_put 39 = .ok (.iadd, 1) := zdcg 22 zdT_dX6_put_0 rfl
theorem dX6_put_40 : decode cX6_put 40 = .ok (.putfield 13, 3) := zdcg 23 zdT_dX6_put_0 rfl
theorem dX6_put_43 : decode cX6_put 43 = .ok (.iinc 2 (-8), 3) := zdcg 24 zdT_dX6_put_0 rfl
theorem zdT_dX6_put_46 : zdch cX6_put [(46, (.goto (-43), 3)), (49, (.return_, 1))] = true := by decide +kernel
theorem dX6_put_46 : decode cX6_put 46 = .ok (.goto (-43), 3) := zdcg 0 zdT_dX6_put_46 rfl
theorem dX6_put_49 : decode cX6_put 49 = .ok (.return_, 1) := zdcg 1 zdT_dX6_put_46 rfl
theorem zdT_dX7_init_0 : zdch cX7_init [(0, (.aload_n 0, 1)), (1, (.invokespecial 3, 3)), (4, (.aload_n 0, 1)), (5, (.iload_n 1, 1)), (6, (.putfield 9, 3)), (9, (.aload_n 0, 1)), (10, (.getstatic 15, 3)), (13, (.iload_n 1, 1)), (14, (.iaload, 1)), (15, (.putfield 19, 3)), (18, (.aload_n 0, 1)), (19, (.aload_n 0, 1)), (20, (.getfield 19, 3)), (23, (.anewarray 22, 3)), (26, (.putfield 24, 3)), (29, (.aload_n 0, 1)), (30, (.invokevirtual 28, 3)), (33, (.aload_n 0, 1)), (34, (.iload_n 1, 1)), (35, (.invokestatic 31, 3)), (38, (.putfield 35, 3)), (41, (.aload_n 0, 1)), (42, (.aload_n 0, 1)), (43, (.getfield 19, 3)), (46, (.newarray .int, 2))] = true := by decide +kernel
theorem dX7_init_0 : decode cX7_init 0 = .ok (.aload_n 0, 1) := zdcg 0 zdT_dX7_init_0 rfl
theorem dX7_init_1 : decode cX7_init 1 = .ok (.invokespecial 3, 3) := zdcg 1 zdT_dX7_init_0 rfl
theorem dX7_init_4 : decode cX7_init 4 = .ok (.aload_n 0, 1) := zdcg 2 zdT_dX7_init_0 rfl
theorem dX7_init_5 : decode cX7_init 5 = .ok (.iload_n 1, 1) := zdcg 3 zdT_dX7_init_0 rfl
theorem dX7_init_6 : decode cX7_init 6 = .ok (.putfield 9, 3) := zdcg 4 zdT_dX7_init_0 rfl
theorem dX7_init_9 : decode cX7_init 9 = .ok (.aload_n 0, 1) := zdcg 5 zdT_dX7_init_0 rfl
theorem dX7_init_10 : decode cX7_init 10 = .ok (.getstatic 15, 3) := zdcg 6 zdT_dX7_init_0 rfl
theorem dX7_init_13 : decode cX7_init 13 = .ok (.iload_n 1, 1) := zdcg 7 zdT_dX7_init_0 rfl
theorem dX7_init_14 : decode cX7_init 14 = .ok (.iaload, 1) := zdcg 8 zdT_dX7_init_0 rfl
theorem dX7_init_15 : decode cX7_init 15 = .ok (.putfield 19, 3) := zdcg 9 zdT_dX7_init_0 rfl
theorem dX7_init_18 : decode cX7_init 18 = .ok (.aload_n 0, 1) := zdcg 10 zdT_dX7_init_0 rfl
theorem dX7_init_19 : decode cX7_init 19 = .ok (.aload_n 0, 1) := zdcg 11 zdT_dX7_init_0 rfl
theorem dX7_init_20 : decode cX7_init 20 = .ok (.getfield 19, 3) := zdcg 12 zdT_dX7_init_0 rfl
theorem dX7_init_23 : decode cX7_init 23 = .ok (.anewarray 22, 3) := zdcg 13 zdT_dX7_init_0 rfl
theorem dX7_init_26 : decode cX7_init 26 = .ok (.putfield 24, 3) := zdcg 14 zdT_dX7_init_0 rfl
theorem dX7_init_29 : decode cX7_init 29 = .ok (.aload_n 0, 1) := zdcg 15 zdT_dX7_init_0 rfl
theorem dX7_init_30 : decode cX7_init 30 = .ok (.invokevirtual 28, 3) := zdcg 16 zdT_dX7_init_0 rfl
theorem dX7_init_33 : decode cX7_init 33 = .ok (.aload_n 0, 1) := zdcg 17 zdT_dX7_init_0 rfl
theorem dX7_init_34 : decode cX7_init 34 = .ok (.iload_n 1, 1) := zdcg 18 zdT_dX7_init_0 rfl
theorem dX7_init_35 : decode cX7_init 35 = .ok (.invokestatic 31, 3) := zdcg 19 zdT_dX7_init_0 rfl
theorem dX7_init_38 : decode cX7_init 38 = .ok (.putfield 35, 3) := zdcg 20 zdT_dX7_init_0 rfl
theorem dX7_init_41 : decode cX7_init 41 = .ok (.aload_n 0, 1) := zdcg 21 zdT_dX7_init_0 rfl
theorem dX7_init_42 : decode cX7_init 42 = .ok (.aload_n 0, 1) := zdcg 22 zdT_dX7_init_0 rfl
theorem dX7_init_43 : decode cX7_init 43 = .ok (.getfield 19, 3) := zdcg 23 zdT_dX7_init_0 rfl
theorem dX7_init_46 : decode cX7_init 46 = .ok (.newarray .int, 2) := zdcg 24 zdT_dX7_init_0 rfl
theorem zdT_dX7_init_48 : zdch cX7_init [(48, (.putfield 38, 3)), (51, (.aload_n 0, 1)), (52, (.aload_n 0, 1)), (53, (.getfield 19, 3)), (56, (.newarray .int, 2)), (58, (.putfield 41, 3)), (61, (.aload_n 0, 1)), (62, (.aload_n 0, 1)), (63, (.getfield 19, 3)), (66, (.newarray .int, 2)), (68, (.putfield 44, 3)), (71, (.aload_n 0, 1)), (72, (.aload_n 0, 1)), (73, (.getfield 19, 3)), (76, (.newarray .int, 2)), (78, (.putfield 47, 3)), (81, (.aload_n 0, 1)), (82, (.aload_n 0, 1)), (83, (.getfield 19, 3)), (86, (.newarray .int, 2)), (88, (.putfield 50, 3)), (91, (.aload_n 0, 1)), (92, (.aload_n 0, 1)), (93, (.getfield 19, 3)), (96, (.bipush 7, 2))] = true := by decide +kernel
theorem dX7_init_48 : decode cX7_init 48 = .ok (.putfield 38, 3) := zdcg 0 zdT_dX7_init_48 rfl
theorem dX7_init_51 : decode cX7_init 51 = .ok (.aload_n 0, 1) := zdcg 1 zdT_dX7_init_48 rfl
theorem dX7_init_52 : decode cX7_init 52 = .ok (.aload_n 0, 1) := zdcg 2 zdT_dX7_init_48 rfl
theorem dX7_init_53 : decode cX7_init 53 = .ok (.getfield 19, 3) := zdcg 3 zdT_dX7_init_48 rfl
theorem dX7_init_56 : decode cX7_init 56 = .ok (.newarray .int, 2) := zdcg 4 zdT_dX7_init_48 rfl
theorem dX7_init_58 : decode cX7_init 58 = .ok (.putfield 41, 3) := zdcg 5 zdT_dX7_init_48 rfl
theorem dX7_init_61 : decode cX7_init 61 = .ok (.aload_n 0, 1) := zdcg 6 zdT_dX7_init_48 rfl
theorem dX7_init_62 : decode cX7_init 62 = .ok (.aload_n 0, 1) := zdcg 7 zdT_dX7_init_48 rfl
theorem dX7_init_63 : decode cX7_init 63 = .ok (.getfield 19, 3) := zdcg 8 zdT_dX7_init_48 rfl
theorem dX7_init_66 : decode cX7_init 66 = .ok (.newarray .int, 2) := zdcg 9 zdT_dX7_init_48 rfl
theorem dX7_init_68 : decode cX7_init 68 = .ok (.putfield 44, 3) := zdcg 10 zdT_dX7_init_48 rfl
theorem dX7_init_71 : decode cX7_init 71 = .ok (.aload_n 0, 1) := zdcg 11 zdT_dX7_init_48 rfl
theorem dX7_init_72 : decode cX7_init 72 = .ok (.aload_n 0, 1) := zdcg 12 zdT_dX7_init_48 rfl
theorem dX7_init_73 : decode cX7_init 73 = .ok (.getfield 19, 3) := zdcg 13 zdT_dX7_init_48 rfl
theorem dX7_init_76 : decode cX7_init 76 = .ok (.newarray .int, 2) := zdcg 14 zdT_dX7_init_48 rfl
theorem dX7_init_78 : decode cX7_init 78 = .ok (.putfield 47, 3) := zdcg 15 zdT_dX7_init_48 rfl
theorem dX7_init_81 : decode cX7_init 81 = .ok (.aload_n 0, 1) := zdcg 16 zdT_dX7_init_48 rfl
theorem dX7_init_82 : decode cX7_init 82 = .ok (.aload_n 0, 1) := zdcg 17 zdT_dX7_init_48 rfl
theorem dX7_init_83 : decode cX7_init 83 = .ok (.getfield 19, 3) := zdcg 18 zdT_dX7_init_48 rfl
theorem dX7_init_86 : decode cX7_init 86 = .ok (.newarray .int, 2) := zdcg 19 zdT_dX7_init_48 rfl
theorem dX7_init_88 : decode cX7_init 88 = .ok (.putfield 50, 3) := zdcg 20 zdT_dX7_init_48 rfl
theorem dX7_init_91 : decode cX7_init 91 = .ok (.aload_n 0, 1) := zdcg 21 zdT_dX7_init_48 rfl
theorem dX7_init_92 : decode cX7_init 92 = .ok (.aload_n 0, 1) := zdcg 22 zdT_dX7_init_48 rfl
theorem dX7_init_93 : decode cX7_init 93 = .ok (.getfield 19, 3) := zdcg 23 zdT_dX7_init_48 rfl
theorem dX7_init_96 : decode cX7_init 96 = .ok (.bipush 7, 2) := zdcg 24 zdT_dX7_init_48 rfl
theorem zdT_dX7_init_98 : zdch cX7_init [(98, (.multianewarray 53 2, 4)), (102, (.putfield 55, 3)), (105, (.aload_n 0, 1)), (106, (.aload_n 0, 1)), (107, (.getfield 19, 3)), (110, (.iload_n 1, 1)), (111, (.iconst 1, 1)), (112, (.iadd, 1)), (113, (.multianewarray 53 2, 4)), (117, (.putfield 58, 3)), (120, (.aload_n 0, 1)), (121, (.aload_n 0, 1)), (122, (.getfield 19, 3)), (125, (.aload_n 0, 1)), (126, (.getfield 19, 3)), (129, (.multianewarray 53 2, 4)), (133, (.putfield 61, 3)), (136, (.aload_n 0, 1)), (137, (.aload_n 0, 1)), (138, (.getfield 19, 3)), (141, (.aload_n 0, 1)), (142, (.getfield 19, 3)), (145, (.multianewarray 53 2, 4)), (149, (.putfield 64, 3)), (152, (.iconst 0, 1))] = true := by decide +kernel
theorem dX7_init_98 : decode cX7_init 98 = .ok (.multianewarray 53 2, 4) := zdcg 0 zdT_dX7_init_98 rfl
theorem dX7_init_102 : decode cX7_init 102 = .ok (.putfield 55, 3) := zdcg 1 zdT_dX7_init_98 rfl
theorem dX7_init_105 : decode cX7_init 105 = .ok (.aload_n 0, 1) := zdcg 2 zdT_dX7_init_98 rfl
theorem dX7_init_106 : decode cX7_init 106 = .ok (.aload_n 0, 1) := zdcg 3 zdT_dX7_init_98 rfl
theorem dX7_init_107 : decode cX7_init 107 = .ok (.getfield 19, 3) := zdcg 4 zdT_dX7_init_98 rfl
theorem dX7_init_110 : decode cX7_init 110 = .ok (.iload_n 1, 1) := zdcg 5 zdT_dX7_init_98 rfl
theorem dX7_init_111 : decode cX7_init 111 = .ok (.iconst 1, 1) := zdcg 6 zdT_dX7_init_98 rfl
theorem dX7_init_112 : decode cX7_init 112 = .ok (.iadd, 1) := zdcg 7 zdT_dX7_init_98 rfl
theorem dX7_init_113 : decode cX7_init 113 = .ok (.multianewarray 53 2, 4) := zdcg 8 zdT_dX7_init_98 rfl
theorem dX7_init_117 : decode cX7_init 117 = .ok (.putfield 58, 3) := zdcg 9 zdT_dX7_init_98 rfl
theorem dX7_init_120 : decode cX7_init 120 = .ok (.aload_n 0, 1) := zdcg 10 zdT_dX7_init_98 rfl
theorem dX7_init_121 : decode cX7_init 121 = .ok (.aload_n 0, 1) := zdcg 11 zdT_dX7_init_98 rfl
theorem dX7_init_122 : decode cX7_init 122 = .ok (.getfield 19, 3) := zdcg 12 zdT_dX7_init_98 rfl
theorem dX7_init_125 : decode cX7_init 125 = .ok (.aload_n 0, 1) := zdcg 13 zdT_dX7_init_98 rfl
theorem dX7_init_126 : decode cX7_init 126 = .ok (.getfield 19, 3) := zdcg 14 zdT_dX7_init_98 rfl
theorem dX7_init_129 : decode cX7_init 129 = .ok (.multianewarray 53 2, 4) := zdcg 15 zdT_dX7_init_98 rfl
theorem dX7_init_133 : decode cX7_init 133 = .ok (.putfield 61, 3) := zdcg 16 zdT_dX7_init_98 rfl
theorem dX7_init_136 : decode cX7_init 136 = .ok (.aload_n 0, 1) := zdcg 17 zdT_dX7_init_98 rfl
theorem dX7_init_137 : decode cX7_init 137 = .ok (.aload_n 0, 1) := zdcg 18 zdT_dX7_init_98 rfl
theorem dX7_init_138 : decode cX7_init 138 = .ok (.getfield 19, 3) := zdcg 19 zdT_dX7_init_98 rfl
theorem dX7_init_141 : decode cX7_init 141 = .ok (.aload_n 0, 1) := zdcg 20 zdT_dX7_init_98 rfl
theorem dX7_init_142 : decode cX7_init 142 = .ok (.getfield 19, 3) := zdcg 21 zdT_dX7_init_98 rfl
theorem dX7_init_145 : decode cX7_init 145 = .ok (.multianewarray 53 2, 4) := zdcg 22 zdT_dX7_init_98 rfl
theorem dX7_init_149 : decode cX7_init 149 = .ok (.putfield 64, 3) := zdcg 23 zdT_dX7_init_98 rfl
theorem dX7_init_152 : decode cX7_init 152 = .ok (.iconst 0, 1) := zdcg 24 zdT_dX7_init_98 rfl
theorem zdT_dX7_init_153 : zdch cX7_init [(153, (.istore_n 2, 1)), (154, (.iload_n 2, 1)), (155, (.aload_n 0, 1)), (156, (.getfield 19, 3)), (159, (.if_icmp .ge 43, 3)), (162, (.aload_n 0, 1)), (163, (.iload_n 2, 1)), (164, (.invokevirtual 67, 3)), (167, (.aload_n 0, 1)), (168, (.getfield 38, 3)), (171, (.iload_n 2, 1)), (172, (.aload_n 0, 1)), (173, (.aload_n 0, 1)), (174, (.getfield 24, 3)), (177, (.iload_n 2, 1)), (178, (.aaload, 1)), (179, (.getfield 71, 3)), (182, (.aload_n 0, 1)), (183, (.getfield 24, 3)), (186, (.iload_n 2, 1)), (187, (.aaload, 1)), (188, (.getfield 71, 3)), (191, (.arraylength, 1)), (192, (.invokevirtual 74, 3)), (195, (.iastore, 1))] = true := by decide +kernel
theorem dX7_init_153 : decode cX7_init 153 = .ok (.istore_n 2, 1) := zdcg 0 zdT_dX7_init_153 rfl
theorem dX7_init_154 : decode cX7_init 154 = .ok (.iload_n 2, 1) := zdcg 1 zdT_dX7_init_153 rfl
theorem dX7_init_155 : decode cX7_init 155 = .ok (.aload_n 0, 1) := zdcg 2 zdT_dX7_init_153 rfl
theorem dX7_init_156 : decode cX7_init 156 = .ok (.getfield 19, 3) := zdcg 3 zdT_dX7_init_153 rfl
theorem dX7_init_159 : decode cX7_init 159 = .ok (.if_icmp .ge 43, 3) := zdcg 4 zdT_dX7_init_153 rfl
theorem dX7_init_162 : decode cX7_init 162 = .ok (.aload_n 0, 1) := zdcg 5 zdT_dX7_init_153 rfl
theorem dX7_init_163 : decode cX7_init 163 = .ok (.iload_n 2, 1) := zdcg 6 zdT_dX7_init_153 rfl
theorem dX7_init_164 : decode cX7_init 164 = .ok (.invokevirtual 67, 3) := zdcg 7 zdT_dX7_init_153 rfl
theorem dX7_init_167 : decode cX7_init 167 = .ok (.aload_n 0, 1) := zdcg 8 zdT_dX7_init_153 rfl
theorem dX7_init_168 : decode cX7_init 168 = .ok (.getfield 38, 3) := zdcg 9 zdT_dX7_init_153 rfl
theorem dX7_init_171 : decode cX7_init 171 = .ok (.iload_n 2, 1) := zdcg 10 zdT_dX7_init_153 rfl
theorem dX7_init_172 : decode cX7_init 172 = .ok (.aload_n 0, 1) := zdcg 11 zdT_dX7_init_153 rfl
theorem dX7_init_173 : decode cX7_init 173 = .ok (.aload_n 0, 1) := zdcg 12 zdT_dX7_init_153 rfl
theorem dX7_init_174 : decode cX7_init 174 = .ok (.getfield 24, 3) := zdcg 13 zdT_dX7_init_153 rfl
theorem dX7_init_177 : decode cX7_init 177 = .ok (.iload_n 2, 1) := zdcg 14 zdT_dX7_init_153 rfl
theorem dX7_init_178 : decode cX7_init 178 = .ok (.aaload, 1) := zdcg 15 zdT_dX7_init_153 rfl
theorem dX7_init_179 : decode cX7_init 179 = .ok (.getfield 71, 3) := zdcg 16 zdT_dX7_init_153 rfl
theorem dX7_init_182 : decode cX7_init 182 = .ok (.aload_n 0, 1) := zdcg 17 zdT_dX7_init_153 rfl
theorem dX7_init_183 : decode cX7_init 183 = .ok (.getfield 24, 3) := zdcg 18 zdT_dX7_init_153 rfl
theorem dX7_init_186 : decode cX7_init 186 = .ok (.iload_n 2, 1) := zdcg 19 zdT_dX7_init_153 rfl
theorem dX7_init_187 : decode cX7_init 187 = .ok (.aaload, 1) := zdcg 20 zdT_dX7_init_153 rfl
theorem dX7_init_188 : decode cX7_init 188 = .ok (.getfield 71, 3) := zdcg 21 zdT_dX7_init_153 rfl
theorem dX7_init_191 : decode cX7_init 191 = .ok (.arraylength, 1) := zdcg 22 zdT_dX7_init_153 rfl
theorem dX7_init_192 : decode cX7_init 192 = .ok (.invokevirtual 74, 3) := zdcg 23 zdT_dX7_init_153 rfl
theorem dX7_init_195 : decode cX7_init 195 = .ok (.iastore, 1) := zdcg 24 zdT_dX7_init_153 rfl
theorem zdT_dX7_init_196 : zdch cX7_init [(196, (.iinc 2 1, 3)), (199, (.goto (-45), 3)), (202, (.aload_n 0, 1)), (203, (.invokevirtual 78, 3)), (206, (.aload_n 0, 1)), (207, (.invokevirtual 81, 3)), (210, (.aload_n 0, 1)), (211, (.invokevirtual 84, 3)), (214, (.aload_n 0, 1)), (215, (.aload_n 0, 1)), (216, (.invokevirtual 87, 3)), (219, (.newarray .int, 2)), (221, (.putfield 91, 3)), (224, (.iconst 0, 1)), (225, (.istore_n 2, 1)), (226, (.iload_n 2, 1)), (227, (.aload_n 0, 1)), (228, (.getfield 19, 3)), (231, (.if_icmp .ge 33, 3)), (234, (.aload_n 0, 1)), (235, (.getfield 24, 3)), (238, (.iload_n 2, 1)), (239, (.aaload, 1)), (240, (.aload_n 0, 1)), (241, (.getfield 58, 3))] = true := by decide +kernel
theorem dX7_init_196 : decode cX7_init 196 = .ok (.iinc 2 1, 3) := zdcg 0 zdT_dX7_init_196 rfl
theorem dX7_init_199 : decode cX7_init 199 = .ok (.goto (-45), 3) := zdcg 1 zdT_dX7_init_196 rfl
theorem dX7_init_202 : decode cX7_init 202 = .ok (.aload_n 0, 1) := zdcg 2 zdT_dX7_init_196 rfl
theorem dX7_init_203 : decode cX7_init 203 = .ok (.invokevirtual 78, 3) := zdcg 3 zdT_dX7_init_196 rfl
theorem dX7_init_206 : decode cX7_init 206 = .ok (.aload_n 0, 1) := zdcg 4 zdT_dX7_init_196 rfl
theorem dX7_init_207 : decode cX7_init 207 = .ok (.invokevirtual 81, 3) := zdcg 5 zdT_dX7_init_196 rfl
theorem dX7_init_210 : decode cX7_init 210 = .ok (.aload_n 0, 1) := zdcg 6 zdT_dX7_init_196 rfl
theorem dX7_init_211 : decode cX7_init 211 = .ok (.invokevirtual 84, 3) := zdcg 7 zdT_dX7_init_196 rfl
theorem dX7_init_214 : decode cX7_init 214 = .ok (.aload_n 0, 1) := zdcg 8 zdT_dX7_init_196 rfl
theorem dX7_init_215 : decode cX7_init 215 = .ok (.aload_n 0, 1) := zdcg 9 zdT_dX7_init_196 rfl
theorem dX7_init_216 : decode cX7_init 216 = .ok (.invokevirtual 87, 3) := zdcg 10 zdT_dX7_init_196 rfl
theorem dX7_init_219 : decode cX7_init 219 = .ok (.newarray .int, 2) := zdcg 11 zdT_dX7_init_196 rfl
theorem dX7_init_221 : decode cX7_init 221 = .ok (.putfield 91, 3) := zdcg 12 zdT_dX7_init_196 rfl
theorem dX7_init_224 : decode cX7_init 224 = .ok (.iconst 0, 1) := zdcg 13 zdT_dX7_init_196 rfl
theorem dX7_init_225 : decode cX7_init 225 = .ok (.istore_n 2, 1) := zdcg 14 zdT_dX7_init_196 rfl
theorem dX7_init_226 : decode cX7_init 226 = .ok (.iload_n 2, 1) := zdcg 15 zdT_dX7_init_196 rfl
theorem dX7_init_227 : decode cX7_init 227 = .ok (.aload_n 0, 1) := zdcg 16 zdT_dX7_init_196 rfl
theorem dX7_init_228 : decode cX7_init 228 = .ok (.getfield 19, 3) := zdcg 17 zdT_dX7_init_196 rfl
theorem dX7_init_231 : decode cX7_init 231 = .ok (.if_icmp .ge 33, 3) := zdcg 18 zdT_dX7_init_196 rfl
theorem dX7_init_234 : decode cX7_init 234 = .ok (.aload_n 0, 1) := zdcg 19 zdT_dX7_init_196 rfl
theorem dX7_init_235 : decode cX7_init 235 = .ok (.getfield 24, 3) := zdcg 20 zdT_dX7_init_196 rfl
theorem dX7_init_238 : decode cX7_init 238 = .ok (.iload_n 2, 1) := zdcg 21 zdT_dX7_init_196 rfl
theorem dX7_init_239 : decode cX7_init 239 = .ok (.aaload, 1) := zdcg 22 zdT_dX7_init_196 rfl
theorem dX7_init_240 : decode cX7_init 240 = .ok (.aload_n 0, 1) := zdcg 23 zdT_dX7_init_196 rfl
theorem dX7_init_241 : decode cX7_init 241 = .ok (.getfield 58, 3) := zdcg 24 zdT_dX7_init_196 rfl
theorem zdT_dX7_init_244 : zdch cX7_init [(244, (.aload_n 0, 1)), (245, (.getfield 19, 3)), (248, (.iconst 1, 1)), (249, (.isub, 1)), (250, (.aaload, 1)), (251, (.aload_n 0, 1)), (252, (.getfield 91, 3)), (255, (.invokevirtual 94, 3)), (258, (.iinc 2 1, 3)), (261, (.goto (-35), 3)), (264, (.return_, 1))] = true := by decide +kernel
theorem dX7_init_244 : decode cX7_init 244 = .ok (.aload_n 0, 1) := zdcg 0 zdT_dX7_init_244 rfl
theorem dX7_init_245 : decode cX7_init 245 = .ok (.getfield 19, 3) := zdcg 1 zdT_dX7_init_244 rfl
theorem dX7_init_248 : decode cX7_init 248 = .ok (.iconst 1, 1) := zdcg 2 zdT_dX7_init_244 rfl
theorem dX7_init_249 : decode cX7_init 249 = .ok (.isub, 1) := zdcg 3 zdT_dX7_init_244 rfl
theorem dX7_init_250 : decode cX7_init 250 = .ok (.aaload, 1) := zdcg 4 zdT_dX7_init_244 rfl
theorem dX7_init_251 : decode cX7_init 251 = .ok (.aload_n 0, 1) := zdcg 5 zdT_dX7_init_244 rfl
theorem dX7_init_252 : decode cX7_init 252 = .ok (.getfield 91, 3) := zdcg 6 zdT_dX7_init_244 rfl
theorem dX7_init_255 : decode cX7_init 255 = .ok (.invokevirtual 94, 3) := zdcg 7 zdT_dX7_init_244 rfl
theorem dX7_init_258 : decode cX7_init 258 = .ok (.iinc 2 1, 3) := zdcg 8 zdT_dX7_init_244 rfl
theorem dX7_init_261 : decode cX7_init 261 = .ok (.goto (-35), 3) := zdcg 9 zdT_dX7_init_244 rfl
theorem dX7_init_264 : decode cX7_init 264 = .ok (.return_, 1) := zdcg 10 zdT_dX7_init_244 rfl
theorem zdT_dX7_numberOf_0 : zdch cX7_numberOf [(0, (.iconst 0, 1)), (1, (.istore_n 3, 1)), (2, (.iload_n 3, 1)), (3, (.aload_n 0, 1)), (4, (.getfield 19, 3)), (7, (.if_icmp .ge 71, 3)), (10, (.aload_n 0, 1)), (11, (.getfield 24, 3)), (14, (.iload_n 3, 1)), (15, (.aaload, 1)), (16, (.getfield 98, 3)), (19, (.astore 4, 2)), (21, (.iconst 0, 1)), (22, (.istore 5, 2)), (24, (.iload 5, 2)), (26, (.aload 4, 2)), (28, (.arraylength, 1)), (29, (.if_icmp .ge 27, 3)), (32, (.iload 5, 2)), (34, (.iload_n 2, 1)), (35, (.if_icmp .ge 21, 3)), (38, (.aload 4, 2)), (40, (.iload 5, 2)), (42, (.iaload, 1)), (43, (.aload_n 1, 1))] = true := by decide +kernel
theorem dX7_numberOf_0 : decode cX7_numberOf 0 = .ok (.iconst 0, 1) := zdcg 0 zdT_dX7_numberOf_0 rfl
theorem dX7_numberOf_1 : decode cX7_numberOf 1 = .ok (.istore_n 3, 1) := zdcg 1 zdT_dX7_numberOf_0 rfl
theorem dX7_numberOf_2 : decode cX7_numberOf 2 = .ok (.iload_n 3, 1) := zdcg 2 zdT_dX7_numberOf_0 rfl
theorem dX7_numberOf_3 : decode cX7_numberOf 3 = .ok (.aload_n 0, 1) := zdcg 3 zdT_dX7_numberOf_0 rfl
theorem dX7_numberOf_4 : decode cX7_numberOf 4 = .ok (.getfield 19, 3) := zdcg 4 zdT_dX7_numberOf_0 rfl
theorem dX7_numberOf_7 : decode cX7_numberOf 7 = .ok (.if_icmp .ge 71, 3) := zdcg 5 zdT_dX7_numberOf_0 rfl
theorem dX7_numberOf_10 : decode cX7_numberOf 10 = .ok (.aload_n 0, 1) := zdcg 6 zdT_dX7_numberOf_0 rfl
theorem dX7_numberOf_11 : decode cX7_numberOf 11 = .ok (.getfield 24, 3) := zdcg 7 zdT_dX7_numberOf_0 rfl
theorem dX7_numberOf_14 : decode cX7_numberOf 14 = .ok (.iload_n 3, 1) := zdcg 8 zdT_dX7_numberOf_0 rfl
theorem dX7_numberOf_15 : decode cX7_numberOf 15 = .ok (.aaload, 1) := zdcg 9 zdT_dX7_numberOf_0 rfl
theorem dX7_numberOf_16 : decode cX7_numberOf 16 = .ok (.getfield 98, 3) := zdcg 10 zdT_dX7_numberOf_0 rfl
theorem dX7_numberOf_19 : decode cX7_numberOf 19 = .ok (.astore 4, 2) := zdcg 11 zdT_dX7_numberOf_0 rfl
theorem dX7_numberOf_21 : decode cX7_numberOf 21 = .ok (.iconst 0, 1) := zdcg 12 zdT_dX7_numberOf_0 rfl
theorem dX7_numberOf_22 : decode cX7_numberOf 22 = .ok (.istore 5, 2) := zdcg 13 zdT_dX7_numberOf_0 rfl
theorem dX7_numberOf_24 : decode cX7_numberOf 24 = .ok (.iload 5, 2) := zdcg 14 zdT_dX7_numberOf_0 rfl
theorem dX7_numberOf_26 : decode cX7_numberOf 26 = .ok (.aload 4, 2) := zdcg 15 zdT_dX7_numberOf_0 rfl
theorem dX7_numberOf_28 : decode cX7_numberOf 28 = .ok (.arraylength, 1) := zdcg 16 zdT_dX7_numberOf_0 rfl
theorem dX7_numberOf_29 : decode cX7_numberOf 29 = .ok (.if_icmp .ge 27, 3) := zdcg 17 zdT_dX7_numberOf_0 rfl
theorem dX7_numberOf_32 : decode cX7_numberOf 32 = .ok (.iload 5, 2) := zdcg 18 zdT_dX7_numberOf_0 rfl
theorem dX7_numberOf_34 : decode cX7_numberOf 34 = .ok (.iload_n 2, 1) := zdcg 19 zdT_dX7_numberOf_0 rfl
theorem dX7_numberOf_35 : decode cX7_numberOf 35 = .ok (.if_icmp .ge 21, 3) := zdcg 20 zdT_dX7_numberOf_0 rfl
theorem dX7_numberOf_38 : decode cX7_numberOf 38 = .ok (.aload 4, 2) := zdcg 21 zdT_dX7_numberOf_0 rfl
theorem dX7_numberOf_40 : decode cX7_numberOf 40 = .ok (.iload 5, 2) := zdcg 22 zdT_dX7_numberOf_0 rfl
theorem dX7_numberOf_42 : decode cX7_numberOf 42 = .ok (.iaload, 1) := zdcg 23 zdT_dX7_numberOf_0 rfl
theorem dX7_numberOf_43 : decode cX7_numberOf 43 = .ok (.aload_n 1, 1) := zdcg 24 zdT_dX7_numberOf_0 rfl
theorem zdT_dX7_numberOf_44 : zdch cX7_numberOf [(44, (.iload 5, 2)), (46, (.iaload, 1)), (47, (.if_icmp .ne 9, 3)), (50, (.iinc 5 1, 3)), (53, (.goto (-29), 3)), (56, (.iload 5, 2)), (58, (.aload 4, 2)), (60, (.arraylength, 1)), (61, (.if_icmp .ne 11, 3)), (64, (.iload 5, 2)), (66, (.iload_n 2, 1)), (67, (.if_icmp .ne 5, 3)), (70, (.iload_n 3, 1)), (71, (.ireturn, 1)), (72, (.iinc 3 1, 3)), (75, (.goto (-73), 3)), (78, (.iconst (-1), 1)), (79, (.ireturn, 1))] = true := by decide +kernel
theorem dX7_numberOf_44 : decode cX7_numberOf 44 = .ok (.iload 5, 2) := zdcg 0 zdT_dX7_numberOf_44 rfl
theorem dX7_numberOf_46 : decode cX7_numberOf 46 = .ok (.iaload, 1) := zdcg 1 zdT_dX7_numberOf_44 rfl
theorem dX7_numberOf_47 : decode cX7_numberOf 47 = .ok (.if_icmp .ne 9, 3) := zdcg 2 zdT_dX7_numberOf_44 rfl
theorem dX7_numberOf_50 : decode cX7_numberOf 50 = .ok (.iinc 5 1, 3) := zdcg 3 zdT_dX7_numberOf_44 rfl
theorem dX7_numberOf_53 : decode cX7_numberOf 53 = .ok (.goto (-29), 3) := zdcg 4 zdT_dX7_numberOf_44 rfl
theorem dX7_numberOf_56 : decode cX7_numberOf 56 = .ok (.iload 5, 2) := zdcg 5 zdT_dX7_numberOf_44 rfl
theorem dX7_numberOf_58 : decode cX7_numberOf 58 = .ok (.aload 4, 2) := zdcg 6 zdT_dX7_numberOf_44 rfl
theorem dX7_numberOf_60 : decode cX7_numberOf 60 = .ok (.arraylength, 1) := zdcg 7 zdT_dX7_numberOf_44 rfl
theorem dX7_numberOf_61 : decode cX7_numberOf 61 = .ok (.if_icmp .ne 11, 3) := zdcg 8 zdT_dX7_numberOf_44 rfl
theorem dX7_numberOf_64 : decode cX7_numberOf 64 = .ok (.iload 5, 2) := zdcg 9 zdT_dX7_numberOf_44 rfl
theorem dX7_numberOf_66 : decode cX7_numberOf 66 = .ok (.iload_n 2, 1) := zdcg 10 zdT_dX7_numberOf_44 rfl
theorem dX7_numberOf_67 : decode cX7_numberOf 67 = .ok (.if_icmp .ne 5, 3) := zdcg 11 zdT_dX7_numberOf_44 rfl
theorem dX7_numberOf_70 : decode cX7_numberOf 70 = .ok (.iload_n 3, 1) := zdcg 12 zdT_dX7_numberOf_44 rfl
theorem dX7_numberOf_71 : decode cX7_numberOf 71 = .ok (.ireturn, 1) := zdcg 13 zdT_dX7_numberOf_44 rfl
theorem dX7_numberOf_72 : decode cX7_numberOf 72 = .ok (.iinc 3 1, 3) := zdcg 14 zdT_dX7_numberOf_44 rfl
theorem dX7_numberOf_75 : decode cX7_numberOf 75 = .ok (.goto (-73), 3) := zdcg 15 zdT_dX7_numberOf_44 rfl
theorem dX7_numberOf_78 : decode cX7_numberOf 78 = .ok (.iconst (-1), 1) := zdcg 16 zdT_dX7_numberOf_44 rfl
theorem dX7_numberOf_79 : decode cX7_numberOf 79 = .ok (.ireturn, 1) := zdcg 17 zdT_dX7_numberOf_44 rfl
theorem zdT_dX7_makeShapes_0 : zdch cX7_makeShapes [(0, (.aload_n 0, 1)), (1, (.getfield 9, 3)), (4, (.newarray .int, 2)), (6, (.astore_n 1, 1)), (7, (.aload_n 1, 1)), (8, (.iconst 0, 1)), (9, (.aload_n 0, 1)), (10, (.getfield 9, 3)), (13, (.iastore, 1)), (14, (.iconst 1, 1)), (15, (.istore_n 2, 1)), (16, (.iconst 0, 1)), (17, (.istore_n 3, 1)), (18, (.iload_n 3, 1)), (19, (.aload_n 0, 1)), (20, (.getfield 19, 3)), (23, (.if_icmp .ge 34, 3)), (26, (.aload_n 0, 1)), (27, (.getfield 24, 3)), (30, (.iload_n 3, 1)), (31, (.new 22, 3)), (34, (.dup, 1)), (35, (.aload_n 1, 1)), (36, (.iload_n 2, 1)), (37, (.aload_n 0, 1))] = true := by decide +kernel
theorem dX7_makeShapes_0 : decode cX7_makeShapes 0 = .ok (.aload_n 0, 1) := zdcg 0 zdT_dX7_makeShapes_0 rfl
theorem dX7_makeShapes_1 : decode cX7_makeShapes 1 = .ok (.getfield 9, 3) := zdcg 1 zdT_dX7_makeShapes_0 rfl
theorem dX7_makeShapes_4 : decode cX7_makeShapes 4 = .ok (.newarray .int, 2) := zdcg 2 zdT_dX7_makeShapes_0 rfl
theorem dX7_makeShapes_6 : decode cX7_makeShapes 6 = .ok (.astore_n 1, 1) := zdcg 3 zdT_dX7_makeShapes_0 rfl
theorem dX7_makeShapes_7 : decode cX7_makeShapes 7 = .ok (.aload_n 1, 1) := zdcg 4 zdT_dX7_makeShapes_0 rfl
theorem dX7_makeShapes_8 : decode cX7_makeShapes 8 = .ok (.iconst 0, 1) := zdcg 5 zdT_dX7_makeShapes_0 rfl
theorem dX7_makeShapes_9 : decode cX7_makeShapes 9 = .ok (.aload_n 0, 1) := zdcg 6 zdT_dX7_makeShapes_0 rfl
theorem dX7_makeShapes_10 : decode cX7_makeShapes 10 = .ok (.getfield 9, 3) := zdcg 7 zdT_dX7_makeShapes_0 rfl
theorem dX7_makeShapes_13 : decode cX7_makeShapes 13 = .ok (.iastore, 1) := zdcg 8 zdT_dX7_makeShapes_0 rfl
theorem dX7_makeShapes_14 : decode cX7_makeShapes 14 = .ok (.iconst 1, 1) := zdcg 9 zdT_dX7_makeShapes_0 rfl
theorem dX7_makeShapes_15 : decode cX7_makeShapes 15 = .ok (.istore_n 2, 1) := zdcg 10 zdT_dX7_makeShapes_0 rfl
theorem dX7_makeShapes_16 : decode cX7_makeShapes 16 = .ok (.iconst 0, 1) := zdcg 11 zdT_dX7_makeShapes_0 rfl
theorem dX7_makeShapes_17 : decode cX7_makeShapes 17 = .ok (.istore_n 3, 1) := zdcg 12 zdT_dX7_makeShapes_0 rfl
theorem dX7_makeShapes_18 : decode cX7_makeShapes 18 = .ok (.iload_n 3, 1) := zdcg 13 zdT_dX7_makeShapes_0 rfl
theorem dX7_makeShapes_19 : decode cX7_makeShapes 19 = .ok (.aload_n 0, 1) := zdcg 14 zdT_dX7_makeShapes_0 rfl
theorem dX7_makeShapes_20 : decode cX7_makeShapes 20 = .ok (.getfield 19, 3) := zdcg 15 zdT_dX7_makeShapes_0 rfl
theorem dX7_makeShapes_23 : decode cX7_makeShapes 23 = .ok (.if_icmp .ge 34, 3) := zdcg 16 zdT_dX7_makeShapes_0 rfl
theorem dX7_makeShapes_26 : decode cX7_makeShapes 26 = .ok (.aload_n 0, 1) := zdcg 17 zdT_dX7_makeShapes_0 rfl
theorem dX7_makeShapes_27 : decode cX7_makeShapes 27 = .ok (.getfield 24, 3) := zdcg 18 zdT_dX7_makeShapes_0 rfl
theorem dX7_makeShapes_30 : decode cX7_makeShapes 30 = .ok (.iload_n 3, 1) := zdcg 19 zdT_dX7_makeShapes_0 rfl
theorem dX7_makeShapes_31 : decode cX7_makeShapes 31 = .ok (.new 22, 3) := zdcg 20 zdT_dX7_makeShapes_0 rfl
theorem dX7_makeShapes_34 : decode cX7_makeShapes 34 = .ok (.dup, 1) := zdcg 21 zdT_dX7_makeShapes_0 rfl
theorem dX7_makeShapes_35 : decode cX7_makeShapes 35 = .ok (.aload_n 1, 1) := zdcg 22 zdT_dX7_makeShapes_0 rfl
theorem dX7_makeShapes_36 : decode cX7_makeShapes 36 = .ok (.iload_n 2, 1) := zdcg 23 zdT_dX7_makeShapes_0 rfl
theorem dX7_makeShapes_37 : decode cX7_makeShapes 37 = .ok (.aload_n 0, 1) := zdcg 24 zdT_dX7_makeShapes_0 rfl
theorem zdT_dX7_makeShapes_38 : zdch cX7_makeShapes [(38, (.getfield 9, 3)), (41, (.invokespecial 101, 3)), (44, (.aastore, 1)), (45, (.aload_n 1, 1)), (46, (.iload_n 2, 1)), (47, (.invokestatic 104, 3)), (50, (.istore_n 2, 1)), (51, (.iinc 3 1, 3)), (54, (.goto (-36), 3)), (57, (.return_, 1))] = true := by decide +kernel
theorem dX7_makeShapes_38 : decode cX7_makeShapes 38 = .ok (.getfield 9, 3) := zdcg 0 zdT_dX7_makeShapes_38 rfl
theorem dX7_makeShapes_41 : decode cX7_makeShapes 41 = .ok (.invokespecial 101, 3) := zdcg 1 zdT_dX7_makeShapes_38 rfl
theorem dX7_makeShapes_44 : decode cX7_makeShapes 44 = .ok (.aastore, 1) := zdcg 2 zdT_dX7_makeShapes_38 rfl
theorem dX7_makeShapes_45 : decode cX7_makeShapes 45 = .ok (.aload_n 1, 1) := zdcg 3 zdT_dX7_makeShapes_38 rfl
theorem dX7_makeShapes_46 : decode cX7_makeShapes 46 = .ok (.iload_n 2, 1) := zdcg 4 zdT_dX7_makeShapes_38 rfl
theorem dX7_makeShapes_47 : decode cX7_makeShapes 47 = .ok (.invokestatic 104, 3) := zdcg 5 zdT_dX7_makeShapes_38 rfl
theorem dX7_makeShapes_50 : decode cX7_makeShapes 50 = .ok (.istore_n 2, 1) := zdcg 6 zdT_dX7_makeShapes_38 rfl
theorem dX7_makeShapes_51 : decode cX7_makeShapes 51 = .ok (.iinc 3 1, 3) := zdcg 7 zdT_dX7_makeShapes_38 rfl
theorem dX7_makeShapes_54 : decode cX7_makeShapes 54 = .ok (.goto (-36), 3) := zdcg 8 zdT_dX7_makeShapes_38 rfl
theorem dX7_makeShapes_57 : decode cX7_makeShapes 57 = .ok (.return_, 1) := zdcg 9 zdT_dX7_makeShapes_38 rfl
theorem zdT_dX7_stepOn_0 : zdch cX7_stepOn [(0, (.iload_n 1, 1)), (1, (.iconst 1, 1)), (2, (.isub, 1)), (3, (.istore_n 2, 1)), (4, (.iload_n 2, 1)), (5, (.ifCond .lt 16, 3)), (8, (.aload_n 0, 1)), (9, (.iload_n 2, 1)), (10, (.iaload, 1)), (11, (.iconst 1, 1)), (12, (.if_icmp .ne 9, 3)), (15, (.iinc 2 (-1), 3)), (18, (.goto (-14), 3)), (21, (.iload_n 2, 1)), (22, (.ifCond .ge 5, 3)), (25, (.iload_n 1, 1)), (26, (.ireturn, 1)), (27, (.iload_n 1, 1)), (28, (.iload_n 2, 1)), (29, (.isub, 1)), (30, (.istore_n 3, 1)), (31, (.aload_n 0, 1)), (32, (.iload_n 2, 1)), (33, (.iaload, 1)), (34, (.iconst 1, 1))] = true := by decide +kernel
theorem dX7_stepOn_0 : decode cX7_stepOn 0 = .ok (.iload_n 1, 1) := zdcg 0 zdT_dX7_stepOn_0 rfl
theorem dX7_stepOn_1 : decode cX7_stepOn 1 = .ok (.iconst 1, 1) := zdcg 1 zdT_dX7_stepOn_0 rfl
theorem dX7_stepOn_2 : decode cX7_stepOn 2 = .ok (.isub, 1) := zdcg 2 zdT_dX7_stepOn_0 rfl
theorem dX7_stepOn_3 : decode cX7_stepOn 3 = .ok (.istore_n 2, 1) := zdcg 3 zdT_dX7_stepOn_0 rfl
theorem dX7_stepOn_4 : decode cX7_stepOn 4 = .ok (.iload_n 2, 1) := zdcg 4 zdT_dX7_stepOn_0 rfl
theorem dX7_stepOn_5 : decode cX7_stepOn 5 = .ok (.ifCond .lt 16, 3) := zdcg 5 zdT_dX7_stepOn_0 rfl
theorem dX7_stepOn_8 : decode cX7_stepOn 8 = .ok (.aload_n 0, 1) := zdcg 6 zdT_dX7_stepOn_0 rfl
theorem dX7_stepOn_9 : decode cX7_stepOn 9 = .ok (.iload_n 2, 1) := zdcg 7 zdT_dX7_stepOn_0 rfl
theorem dX7_stepOn_10 : decode cX7_stepOn 10 = .ok (.iaload, 1) := zdcg 8 zdT_dX7_stepOn_0 rfl
theorem dX7_stepOn_11 : decode cX7_stepOn 11 = .ok (.iconst 1, 1) := zdcg 9 zdT_dX7_stepOn_0 rfl
theorem dX7_stepOn_12 : decode cX7_stepOn 12 = .ok (.if_icmp .ne 9, 3) := zdcg 10 zdT_dX7_stepOn_0 rfl
theorem dX7_stepOn_15 : decode cX7_stepOn 15 = .ok (.iinc 2 (-1), 3) := zdcg 11 zdT_dX7_stepOn_0 rfl
theorem dX7_stepOn_18 : decode cX7_stepOn 18 = .ok (.goto (-14), 3) := zdcg 12 zdT_dX7_stepOn_0 rfl
theorem dX7_stepOn_21 : decode cX7_stepOn 21 = .ok (.iload_n 2, 1) := zdcg 13 zdT_dX7_stepOn_0 rfl
theorem dX7_stepOn_22 : decode cX7_stepOn 22 = .ok (.ifCond .ge 5, 3) := zdcg 14 zdT_dX7_stepOn_0 rfl
theorem dX7_stepOn_25 : decode cX7_stepOn 25 = .ok (.iload_n 1, 1) := zdcg 15 zdT_dX7_stepOn_0 rfl
theorem dX7_stepOn_26 : decode cX7_stepOn 26 = .ok (.ireturn, 1) := zdcg 16 zdT_dX7_stepOn_0 rfl
theorem dX7_stepOn_27 : decode cX7_stepOn 27 = .ok (.iload_n 1, 1) := zdcg 17 zdT_dX7_stepOn_0 rfl
theorem dX7_stepOn_28 : decode cX7_stepOn 28 = .ok (.iload_n 2, 1) := zdcg 18 zdT_dX7_stepOn_0 rfl
theorem dX7_stepOn_29 : decode cX7_stepOn 29 = .ok (.isub, 1) := zdcg 19 zdT_dX7_stepOn_0 rfl
theorem dX7_stepOn_30 : decode cX7_stepOn 30 = .ok (.istore_n 3, 1) := zdcg 20 zdT_dX7_stepOn_0 rfl
theorem dX7_stepOn_31 : decode cX7_stepOn 31 = .ok (.aload_n 0, 1) := zdcg 21 zdT_dX7_stepOn_0 rfl
theorem dX7_stepOn_32 : decode cX7_stepOn 32 = .ok (.iload_n 2, 1) := zdcg 22 zdT_dX7_stepOn_0 rfl
theorem dX7_stepOn_33 : decode cX7_stepOn 33 = .ok (.iaload, 1) := zdcg 23 zdT_dX7_stepOn_0 rfl
theorem dX7_stepOn_34 : decode cX7_stepOn 34 = .ok (.iconst 1, 1) := zdcg 24 zdT_dX7_stepOn_0 rfl
theorem zdT_dX7_stepOn_35 : zdch cX7_stepOn [(35, (.isub, 1)), (36, (.istore 4, 2)), (38, (.aload_n 0, 1)), (39, (.iload_n 2, 1)), (40, (.iload 4, 2)), (42, (.iastore, 1)), (43, (.iload_n 2, 1)), (44, (.iconst 1, 1)), (45, (.iadd, 1)), (46, (.istore 5, 2)), (48, (.iload_n 3, 1)), (49, (.ifCond .le 33, 3)), (52, (.iload 5, 2)), (54, (.aload_n 0, 1)), (55, (.arraylength, 1)), (56, (.if_icmp .ge 26, 3)), (59, (.aload_n 0, 1)), (60, (.iload 5, 2)), (62, (.iload 4, 2)), (64, (.iload_n 3, 1)), (65, (.invokestatic 107, 3)), (68, (.iastore, 1)), (69, (.iload_n 3, 1)), (70, (.aload_n 0, 1)), (71, (.iload 5, 2))] = true := by decide +kernel
theorem dX7_stepOn_35 : decode cX7_stepOn 35 = .ok (.isub, 1) := zdcg 0 zdT_dX7_stepOn_35 rfl
theorem dX7_stepOn_36 : decode cX7_stepOn 36 = .ok (.istore 4, 2) := zdcg 1 zdT_dX7_stepOn_35 rfl
theorem dX7_stepOn_38 : decode cX7_stepOn 38 = .ok (.aload_n 0, 1) := zdcg 2 zdT_dX7_stepOn_35 rfl
theorem dX7_stepOn_39 : decode cX7_stepOn 39 = .ok (.iload_n 2, 1) := zdcg 3 zdT_dX7_stepOn_35 rfl
theorem dX7_stepOn_40 : decode cX7_stepOn 40 = .ok (.iload 4, 2) := zdcg 4 zdT_dX7_stepOn_35 rfl
theorem dX7_stepOn_42 : decode cX7_stepOn 42 = .ok (.iastore, 1) := zdcg 5 zdT_dX7_stepOn_35 rfl
theorem dX7_stepOn_43 : decode cX7_stepOn 43 = .ok (.iload_n 2, 1) := zdcg 6 zdT_dX7_stepOn_35 rfl
theorem dX7_stepOn_44 : decode cX7_stepOn 44 = .ok (.iconst 1, 1) := zdcg 7 zdT_dX7_stepOn_35 rfl
theorem dX7_stepOn_45 : decode cX7_stepOn 45 = .ok (.iadd, 1) := zdcg 8 zdT_dX7_stepOn_35 rfl
theorem dX7_stepOn_46 : decode cX7_stepOn 46 = .ok (.istore 5, 2) := zdcg 9 zdT_dX7_stepOn_35 rfl
theorem dX7_stepOn_48 : decode cX7_stepOn 48 = .ok (.iload_n 3, 1) := zdcg 10 zdT_dX7_stepOn_35 rfl
theorem dX7_stepOn_49 : decode cX7_stepOn 49 = .ok (.ifCond .le 33, 3) := zdcg 11 zdT_dX7_stepOn_35 rfl
theorem dX7_stepOn_52 : decode cX7_stepOn 52 = .ok (.iload 5, 2) := zdcg 12 zdT_dX7_stepOn_35 rfl
theorem dX7_stepOn_54 : decode cX7_stepOn 54 = .ok (.aload_n 0, 1) := zdcg 13 zdT_dX7_stepOn_35 rfl
theorem dX7_stepOn_55 : decode cX7_stepOn 55 = .ok (.arraylength, 1) := zdcg 14 zdT_dX7_stepOn_35 rfl
theorem dX7_stepOn_56 : decode cX7_stepOn 56 = .ok (.if_icmp .ge 26, 3) := zdcg 15 zdT_dX7_stepOn_35 rfl
theorem dX7_stepOn_59 : decode cX7_stepOn 59 = .ok (.aload_n 0, 1) := zdcg 16 zdT_dX7_stepOn_35 rfl
theorem dX7_stepOn_60 : decode cX7_stepOn 60 = .ok (.iload 5, 2) := zdcg 17 zdT_dX7_stepOn_35 rfl
theorem dX7_stepOn_62 : decode cX7_stepOn 62 = .ok (.iload 4, 2) := zdcg 18 zdT_dX7_stepOn_35 rfl
theorem dX7_stepOn_64 : decode cX7_stepOn 64 = .ok (.iload_n 3, 1) := zdcg 19 zdT_dX7_stepOn_35 rfl
theorem dX7_stepOn_65 : decode cX7_stepOn 65 = .ok (.invokestatic 107, 3) := zdcg 20 zdT_dX7_stepOn_35 rfl
theorem dX7_stepOn_68 : decode cX7_stepOn 68 = .ok (.iastore, 1) := zdcg 21 zdT_dX7_stepOn_35 rfl
theorem dX7_stepOn_69 : decode cX7_stepOn 69 = .ok (.iload_n 3, 1) := zdcg 22 zdT_dX7_stepOn_35 rfl
theorem dX7_stepOn_70 : decode cX7_stepOn 70 = .ok (.aload_n 0, 1) := zdcg 23 zdT_dX7_stepOn_35 rfl
theorem dX7_stepOn_71 : decode cX7_stepOn 71 = .ok (.iload 5, 2) := zdcg 24 zdT_dX7_stepOn_35 rfl
theorem zdT_dX7_stepOn_73 : zdch cX7_stepOn [(73, (.iaload, 1)), (74, (.isub, 1)), (75, (.istore_n 3, 1)), (76, (.iinc 5 1, 3)), (79, (.goto (-31), 3)), (82, (.iload 5, 2)), (84, (.ireturn, 1))] = true := by decide +kernel
theorem dX7_stepOn_73 : decode cX7_stepOn 73 = .ok (.iaload, 1) := zdcg 0 zdT_dX7_stepOn_73 rfl
theorem dX7_stepOn_74 : decode cX7_stepOn 74 = .ok (.isub, 1) := zdcg 1 zdT_dX7_stepOn_73 rfl
theorem dX7_stepOn_75 : decode cX7_stepOn 75 = .ok (.istore_n 3, 1) := zdcg 2 zdT_dX7_stepOn_73 rfl
theorem dX7_stepOn_76 : decode cX7_stepOn 76 = .ok (.iinc 5 1, 3) := zdcg 3 zdT_dX7_stepOn_73 rfl
theorem dX7_stepOn_79 : decode cX7_stepOn 79 = .ok (.goto (-31), 3) := zdcg 4 zdT_dX7_stepOn_73 rfl
theorem dX7_stepOn_82 : decode cX7_stepOn 82 = .ok (.iload 5, 2) := zdcg 5 zdT_dX7_stepOn_73 rfl
theorem dX7_stepOn_84 : decode cX7_stepOn 84 = .ok (.ireturn, 1) := zdcg 6 zdT_dX7_stepOn_73 rfl
theorem zdT_dX7_describeClass_0 : zdch cX7_describeClass [(0, (.aload_n 0, 1)), (1, (.getfield 24, 3)), (4, (.iload_n 1, 1)), (5, (.aaload, 1)), (6, (.getfield 98, 3)), (9, (.astore_n 2, 1)), (10, (.iconst 1, 1)), (11, (.istore_n 3, 1)), (12, (.iconst 0, 1)), (13, (.istore 4, 2)), (15, (.iconst 1, 1)), (16, (.istore 5, 2)), (18, (.aload_n 0, 1)), (19, (.getfield 44, 3)), (22, (.iload_n 1, 1)), (23, (.iconst 1, 1)), (24, (.iastore, 1)), (25, (.aload_n 0, 1)), (26, (.getfield 47, 3)), (29, (.iload_n 1, 1)), (30, (.iconst 1, 1)), (31, (.iastore, 1)), (32, (.iconst 0, 1)), (33, (.istore 6, 2)), (35, (.iload 6, 2))] = true := by decide +kernel
theorem dX7_describeClass_0 : decode cX7_describeClass 0 = .ok (.aload_n 0, 1) := zdcg 0 zdT_dX7_describeClass_0 rfl
theorem dX7_describeClass_1 : decode cX7_describeClass 1 = .ok (.getfield 24, 3) := zdcg 1 zdT_dX7_describeClass_0 rfl
theorem dX7_describeClass_4 : decode cX7_describeClass 4 = .ok (.iload_n 1, 1) := zdcg 2 zdT_dX7_describeClass_0 rfl
theorem dX7_describeClass_5 : decode cX7_describeClass 5 = .ok (.aaload, 1) := zdcg 3 zdT_dX7_describeClass_0 rfl
theorem dX7_describeClass_6 : decode cX7_describeClass 6 = .ok (.getfield 98, 3) := zdcg 4 zdT_dX7_describeClass_0 rfl
theorem dX7_describeClass_9 : decode cX7_describeClass 9 = .ok (.astore_n 2, 1) := zdcg 5 zdT_dX7_describeClass_0 rfl
theorem dX7_describeClass_10 : decode cX7_describeClass 10 = .ok (.iconst 1, 1) := zdcg 6 zdT_dX7_describeClass_0 rfl
theorem dX7_describeClass_11 : decode cX7_describeClass 11 = .ok (.istore_n 3, 1) := zdcg 7 zdT_dX7_describeClass_0 rfl
theorem dX7_describeClass_12 : decode cX7_describeClass 12 = .ok (.iconst 0, 1) := zdcg 8 zdT_dX7_describeClass_0 rfl
theorem dX7_describeClass_13 : decode cX7_describeClass 13 = .ok (.istore 4, 2) := zdcg 9 zdT_dX7_describeClass_0 rfl
theorem dX7_describeClass_15 : decode cX7_describeClass 15 = .ok (.iconst 1, 1) := zdcg 10 zdT_dX7_describeClass_0 rfl
theorem dX7_describeClass_16 : decode cX7_describeClass 16 = .ok (.istore 5, 2) := zdcg 11 zdT_dX7_describeClass_0 rfl
theorem dX7_describeClass_18 : decode cX7_describeClass 18 = .ok (.aload_n 0, 1) := zdcg 12 zdT_dX7_describeClass_0 rfl
theorem dX7_describeClass_19 : decode cX7_describeClass 19 = .ok (.getfield 44, 3) := zdcg 13 zdT_dX7_describeClass_0 rfl
theorem dX7_describeClass_22 : decode cX7_describeClass 22 = .ok (.iload_n 1, 1) := zdcg 14 zdT_dX7_describeClass_0 rfl
theorem dX7_describeClass_23 : decode cX7_describeClass 23 = .ok (.iconst 1, 1) := zdcg 15 zdT_dX7_describeClass_0 rfl
theorem dX7_describeClass_24 : decode cX7_describeClass 24 = .ok (.iastore, 1) := zdcg 16 zdT_dX7_describeClass_0 rfl
theorem dX7_describeClass_25 : decode cX7_describeClass 25 = .ok (.aload_n 0, 1) := zdcg 17 zdT_dX7_describeClass_0 rfl
theorem dX7_describeClass_26 : decode cX7_describeClass 26 = .ok (.getfield 47, 3) := zdcg 18 zdT_dX7_describeClass_0 rfl
theorem dX7_describeClass_29 : decode cX7_describeClass 29 = .ok (.iload_n 1, 1) := zdcg 19 zdT_dX7_describeClass_0 rfl
theorem dX7_describeClass_30 : decode cX7_describeClass 30 = .ok (.iconst 1, 1) := zdcg 20 zdT_dX7_describeClass_0 rfl
theorem dX7_describeClass_31 : decode cX7_describeClass 31 = .ok (.iastore, 1) := zdcg 21 zdT_dX7_describeClass_0 rfl
theorem dX7_describeClass_32 : decode cX7_describeClass 32 = .ok (.iconst 0, 1) := zdcg 22 zdT_dX7_describeClass_0 rfl
theorem dX7_describeClass_33 : decode cX7_describeClass 33 = .ok (.istore 6, 2) := zdcg 23 zdT_dX7_describeClass_0 rfl
theorem dX7_describeClass_35 : decode cX7_describeClass 35 = .ok (.iload 6, 2) := zdcg 24 zdT_dX7_describeClass_0 rfl
theorem zdT_dX7_describeClass_37 : zdch cX7_describeClass [(37, (.aload_n 2, 1)), (38, (.arraylength, 1)), (39, (.if_icmp .ge 138, 3)), (42, (.aload_n 2, 1)), (43, (.iload 6, 2)), (45, (.iaload, 1)), (46, (.istore 7, 2)), (48, (.iload 6, 2)), (50, (.ifCond .le 21, 3)), (53, (.aload_n 2, 1)), (54, (.iload 6, 2)), (56, (.iconst 1, 1)), (57, (.isub, 1)), (58, (.iaload, 1)), (59, (.iload 7, 2)), (61, (.if_icmp .ne 10, 3)), (64, (.iload 4, 2)), (66, (.iconst 1, 1)), (67, (.iadd, 1)), (68, (.goto 4, 3)), (71, (.iconst 1, 1)), (72, (.istore 4, 2)), (74, (.iload 5, 2)), (76, (.iload 7, 2)), (78, (.iload 4, 2))] = true := by decide +kernel
theorem dX7_describeClass_37 : decode cX7_describeClass 37 = .ok (.aload_n 2, 1) := zdcg 0 zdT_dX7_describeClass_37 rfl
theorem dX7_describeClass_38 : decode cX7_describeClass 38 = .ok (.arraylength, 1) := zdcg 1 zdT_dX7_describeClass_37 rfl
theorem dX7_describeClass_39 : decode cX7_describeClass 39 = .ok (.if_icmp .ge 138, 3) := zdcg 2 zdT_dX7_describeClass_37 rfl
theorem dX7_describeClass_42 : decode cX7_describeClass 42 = .ok (.aload_n 2, 1) := zdcg 3 zdT_dX7_describeClass_37 rfl
theorem dX7_describeClass_43 : decode cX7_describeClass 43 = .ok (.iload 6, 2) := zdcg 4 zdT_dX7_describeClass_37 rfl
theorem dX7_describeClass_45 : decode cX7_describeClass 45 = .ok (.iaload, 1) := zdcg 5 zdT_dX7_describeClass_37 rfl
theorem dX7_describeClass_46 : decode cX7_describeClass 46 = .ok (.istore 7, 2) := zdcg 6 zdT_dX7_describeClass_37 rfl
theorem dX7_describeClass_48 : decode cX7_describeClass 48 = .ok (.iload 6, 2) := zdcg 7 zdT_dX7_describeClass_37 rfl
theorem dX7_describeClass_50 : decode cX7_describeClass 50 = .ok (.ifCond .le 21, 3) := zdcg 8 zdT_dX7_describeClass_37 rfl
theorem dX7_describeClass_53 : decode cX7_describeClass 53 = .ok (.aload_n 2, 1) := zdcg 9 zdT_dX7_describeClass_37 rfl
theorem dX7_describeClass_54 : decode cX7_describeClass 54 = .ok (.iload 6, 2) := zdcg 10 zdT_dX7_describeClass_37 rfl
theorem dX7_describeClass_56 : decode cX7_describeClass 56 = .ok (.iconst 1, 1) := zdcg 11 zdT_dX7_describeClass_37 rfl
theorem dX7_describeClass_57 : decode cX7_describeClass 57 = .ok (.isub, 1) := zdcg 12 zdT_dX7_describeClass_37 rfl
theorem dX7_describeClass_58 : decode cX7_describeClass 58 = .ok (.iaload, 1) := zdcg 13 zdT_dX7_describeClass_37 rfl
theorem dX7_describeClass_59 : decode cX7_describeClass 59 = .ok (.iload 7, 2) := zdcg 14 zdT_dX7_describeClass_37 rfl
theorem dX7_describeClass_61 : decode cX7_describeClass 61 = .ok (.if_icmp .ne 10, 3) := zdcg 15 zdT_dX7_describeClass_37 rfl
theorem dX7_describeClass_64 : decode cX7_describeClass 64 = .ok (.iload 4, 2) := zdcg 16 zdT_dX7_describeClass_37 rfl
theorem dX7_describeClass_66 : decode cX7_describeClass 66 = .ok (.iconst 1, 1) := zdcg 17 zdT_dX7_describeClass_37 rfl
theorem dX7_describeClass_67 : decode cX7_describeClass 67 = .ok (.iadd, 1) := zdcg 18 zdT_dX7_describeClass_37 rfl
theorem dX7_describeClass_68 : decode cX7_describeClass 68 = .ok (.goto 4, 3) := zdcg 19 zdT_dX7_describeClass_37 rfl
theorem dX7_describeClass_71 : decode cX7_describeClass 71 = .ok (.iconst 1, 1) := zdcg 20 zdT_dX7_describeClass_37 rfl
theorem dX7_describeClass_72 : decode cX7_describeClass 72 = .ok (.istore 4, 2) := zdcg 21 zdT_dX7_describeClass_37 rfl
theorem dX7_describeClass_74 : decode cX7_describeClass 74 = .ok (.iload 5, 2) := zdcg 22 zdT_dX7_describeClass_37 rfl
theorem dX7_describeClass_76 : decode cX7_describeClass 76 = .ok (.iload 7, 2) := zdcg 23 zdT_dX7_describeClass_37 rfl
theorem dX7_describeClass_78 : decode cX7_describeClass 78 = .ok (.iload 4, 2) := zdcg 24 zdT_dX7_describeClass_37 rfl
theorem zdT_dX7_describeClass_80 : zdch cX7_describeClass [(80, (.imul, 1)), (81, (.imul, 1)), (82, (.istore 5, 2)), (84, (.aload_n 0, 1)), (85, (.getfield 44, 3)), (88, (.iload_n 1, 1)), (89, (.aload_n 0, 1)), (90, (.getfield 44, 3)), (93, (.iload_n 1, 1)), (94, (.iaload, 1)), (95, (.iload 7, 2)), (97, (.invokestatic 113, 3)), (100, (.iastore, 1)), (101, (.aload_n 0, 1)), (102, (.getfield 47, 3)), (105, (.iload_n 1, 1)), (106, (.iload 7, 2)), (108, (.iconst 2, 1)), (109, (.irem, 1)), (110, (.ifCond .ne 13, 3)), (113, (.aload_n 0, 1)), (114, (.getfield 47, 3)), (117, (.iload_n 1, 1)), (118, (.iaload, 1)), (119, (.ineg, 1))] = true := by decide +kernel
theorem dX7_describeClass_80 : decode cX7_describeClass 80 = .ok (.imul, 1) := zdcg 0 zdT_dX7_describeClass_80 rfl
theorem dX7_describeClass_81 : decode cX7_describeClass 81 = .ok (.imul, 1) := zdcg 1 zdT_dX7_describeClass_80 rfl
theorem dX7_describeClass_82 : decode cX7_describeClass 82 = .ok (.istore 5, 2) := zdcg 2 zdT_dX7_describeClass_80 rfl
theorem dX7_describeClass_84 : decode cX7_describeClass 84 = .ok (.aload_n 0, 1) := zdcg 3 zdT_dX7_describeClass_80 rfl
theorem dX7_describeClass_85 : decode cX7_describeClass 85 = .ok (.getfield 44, 3) := zdcg 4 zdT_dX7_describeClass_80 rfl
theorem dX7_describeClass_88 : decode cX7_describeClass 88 = .ok (.iload_n 1, 1) := zdcg 5 zdT_dX7_describeClass_80 rfl
theorem dX7_describeClass_89 : decode cX7_describeClass 89 = .ok (.aload_n 0, 1) := zdcg 6 zdT_dX7_describeClass_80 rfl
theorem dX7_describeClass_90 : decode cX7_describeClass 90 = .ok (.getfield 44, 3) := zdcg 7 zdT_dX7_describeClass_80 rfl
theorem dX7_describeClass_93 : decode cX7_describeClass 93 = .ok (.iload_n 1, 1) := zdcg 8 zdT_dX7_describeClass_80 rfl
theorem dX7_describeClass_94 : decode cX7_describeClass 94 = .ok (.iaload, 1) := zdcg 9 zdT_dX7_describeClass_80 rfl
theorem dX7_describeClass_95 : decode cX7_describeClass 95 = .ok (.iload 7, 2) := zdcg 10 zdT_dX7_describeClass_80 rfl
theorem dX7_describeClass_97 : decode cX7_describeClass 97 = .ok (.invokestatic 113, 3) := zdcg 11 zdT_dX7_describeClass_80 rfl
theorem dX7_describeClass_100 : decode cX7_describeClass 100 = .ok (.iastore, 1) := zdcg 12 zdT_dX7_describeClass_80 rfl
theorem dX7_describeClass_101 : decode cX7_describeClass 101 = .ok (.aload_n 0, 1) := zdcg 13 zdT_dX7_describeClass_80 rfl
theorem dX7_describeClass_102 : decode cX7_describeClass 102 = .ok (.getfield 47, 3) := zdcg 14 zdT_dX7_describeClass_80 rfl
theorem dX7_describeClass_105 : decode cX7_describeClass 105 = .ok (.iload_n 1, 1) := zdcg 15 zdT_dX7_describeClass_80 rfl
theorem dX7_describeClass_106 : decode cX7_describeClass 106 = .ok (.iload 7, 2) := zdcg 16 zdT_dX7_describeClass_80 rfl
theorem dX7_describeClass_108 : decode cX7_describeClass 108 = .ok (.iconst 2, 1) := zdcg 17 zdT_dX7_describeClass_80 rfl
theorem dX7_describeClass_109 : decode cX7_describeClass 109 = .ok (.irem, 1) := zdcg 18 zdT_dX7_describeClass_80 rfl
theorem dX7_describeClass_110 : decode cX7_describeClass 110 = .ok (.ifCond .ne 13, 3) := zdcg 19 zdT_dX7_describeClass_80 rfl
theorem dX7_describeClass_113 : decode cX7_describeClass 113 = .ok (.aload_n 0, 1) := zdcg 20 zdT_dX7_describeClass_80 rfl
theorem dX7_describeClass_114 : decode cX7_describeClass 114 = .ok (.getfield 47, 3) := zdcg 21 zdT_dX7_describeClass_80 rfl
theorem dX7_describeClass_117 : decode cX7_describeClass 117 = .ok (.iload_n 1, 1) := zdcg 22 zdT_dX7_describeClass_80 rfl
theorem dX7_describeClass_118 : decode cX7_describeClass 118 = .ok (.iaload, 1) := zdcg 23 zdT_dX7_describeClass_80 rfl
theorem dX7_describeClass_119 : decode cX7_describeClass 119 = .ok (.ineg, 1) := zdcg 24 zdT_dX7_describeClass_80 rfl
theorem zdT_dX7_describeClass_120 : zdch cX7_describeClass [(120, (.goto 9, 3)), (123, (.aload_n 0, 1)), (124, (.getfield 47, 3)), (127, (.iload_n 1, 1)), (128, (.iaload, 1)), (129, (.iastore, 1)), (130, (.iconst 0, 1)), (131, (.istore 8, 2)), (133, (.iload 8, 2)), (135, (.iload 7, 2)), (137, (.if_icmp .ge 29, 3)), (140, (.aload_n 0, 1)), (141, (.getfield 58, 3)), (144, (.iload_n 1, 1)), (145, (.aaload, 1)), (146, (.iload_n 3, 1)), (147, (.iload 8, 2)), (149, (.iadd, 1)), (150, (.iload_n 3, 1)), (151, (.iload 8, 2)), (153, (.iconst 1, 1)), (154, (.iadd, 1)), (155, (.iload 7, 2)), (157, (.irem, 1)), (158, (.iadd, 1))] = true := by decide +kernel
theorem dX7_describeClass_120 : decode cX7_describeClass 120 = .ok (.goto 9, 3) := zdcg 0 zdT_dX7_describeClass_120 rfl
theorem dX7_describeClass_123 : decode cX7_describeClass 123 = .ok (.aload_n 0, 1) := zdcg 1 zdT_dX7_describeClass_120 rfl
theorem dX7_describeClass_124 : decode cX7_describeClass 124 = .ok (.getfield 47, 3) := zdcg 2 zdT_dX7_describeClass_120 rfl
theorem dX7_describeClass_127 : decode cX7_describeClass 127 = .ok (.iload_n 1, 1) := zdcg 3 zdT_dX7_describeClass_120 rfl
theorem dX7_describeClass_128 : decode cX7_describeClass 128 = .ok (.iaload, 1) := zdcg 4 zdT_dX7_describeClass_120 rfl
theorem dX7_describeClass_129 : decode cX7_describeClass 129 = .ok (.iastore, 1) := zdcg 5 zdT_dX7_describeClass_120 rfl
theorem dX7_describeClass_130 : decode cX7_describeClass 130 = .ok (.iconst 0, 1) := zdcg 6 zdT_dX7_describeClass_120 rfl
theorem dX7_describeClass_131 : decode cX7_describeClass 131 = .ok (.istore 8, 2) := zdcg 7 zdT_dX7_describeClass_120 rfl
theorem dX7_describeClass_133 : decode cX7_describeClass 133 = .ok (.iload 8, 2) := zdcg 8 zdT_dX7_describeClass_120 rfl
theorem dX7_describeClass_135 : decode cX7_describeClass 135 = .ok (.iload 7, 2) := zdcg 9 zdT_dX7_describeClass_120 rfl
theorem dX7_describeClass_137 : decode cX7_describeClass 137 = .ok (.if_icmp .ge 29, 3) := zdcg 10 zdT_dX7_describeClass_120 rfl
theorem dX7_describeClass_140 : decode cX7_describeClass 140 = .ok (.aload_n 0, 1) := zdcg 11 zdT_dX7_describeClass_120 rfl
theorem dX7_describeClass_141 : decode cX7_describeClass 141 = .ok (.getfield 58, 3) := zdcg 12 zdT_dX7_describeClass_120 rfl
theorem dX7_describeClass_144 : decode cX7_describeClass 144 = .ok (.iload_n 1, 1) := zdcg 13 zdT_dX7_describeClass_120 rfl
theorem dX7_describeClass_145 : decode cX7_describeClass 145 = .ok (.aaload, 1) := zdcg 14 zdT_dX7_describeClass_120 rfl
theorem dX7_describeClass_146 : decode cX7_describeClass 146 = .ok (.iload_n 3, 1) := zdcg 15 zdT_dX7_describeClass_120 rfl
theorem dX7_describeClass_147 : decode cX7_describeClass 147 = .ok (.iload 8, 2) := zdcg 16 zdT_dX7_describeClass_120 rfl
theorem dX7_describeClass_149 : decode cX7_describeClass 149 = .ok (.iadd, 1) := zdcg 17 zdT_dX7_describeClass_120 rfl
theorem dX7_describeClass_150 : decode cX7_describeClass 150 = .ok (.iload_n 3, 1) := zdcg 18 zdT_dX7_describeClass_120 rfl
theorem dX7_describeClass_151 : decode cX7_describeClass 151 = .ok (.iload 8, 2) := zdcg 19 zdT_dX7_describeClass_120 rfl
theorem dX7_describeClass_153 : decode cX7_describeClass 153 = .ok (.iconst 1, 1) := zdcg 20 zdT_dX7_describeClass_120 rfl
theorem dX7_describeClass_154 : decode cX7_describeClass 154 = .ok (.iadd, 1) := zdcg 21 zdT_dX7_describeClass_120 rfl
theorem dX7_describeClass_155 : decode cX7_describeClass 155 = .ok (.iload 7, 2) := zdcg 22 zdT_dX7_describeClass_120 rfl
theorem dX7_describeClass_157 : decode cX7_describeClass 157 = .ok (.irem, 1) := zdcg 23 zdT_dX7_describeClass_120 rfl
theorem dX7_describeClass_158 : decode cX7_describeClass 158 = .ok (.iadd, 1) := zdcg 24 zdT_dX7_describeClass_120 rfl
theorem zdT_dX7_describeClass_159 : zdch cX7_describeClass [(159, (.iastore, 1)), (160, (.iinc 8 1, 3)), (163, (.goto (-30), 3)), (166, (.iload_n 3, 1)), (167, (.iload 7, 2)), (169, (.iadd, 1)), (170, (.istore_n 3, 1)), (171, (.iinc 6 1, 3)), (174, (.goto (-139), 3)), (177, (.aload_n 0, 1)), (178, (.getfield 50, 3)), (181, (.iload_n 1, 1)), (182, (.iload 5, 2)), (184, (.iastore, 1)), (185, (.aload_n 0, 1)), (186, (.getfield 41, 3)), (189, (.iload_n 1, 1)), (190, (.iload 5, 2)), (192, (.ifCond .le 13, 3)), (195, (.aload_n 0, 1)), (196, (.getfield 35, 3)), (199, (.iload 5, 2)), (201, (.idiv, 1)), (202, (.goto 4, 3)), (205, (.iconst 0, 1))] = true := by decide +kernel
theorem dX7_describeClass_159 : decode cX7_describeClass 159 = .ok (.iastore, 1) := zdcg 0 zdT_dX7_describeClass_159 rfl
theorem dX7_describeClass_160 : decode cX7_describeClass 160 = .ok (.iinc 8 1, 3) := zdcg 1 zdT_dX7_describeClass_159 rfl
theorem dX7_describeClass_163 : decode cX7_describeClass 163 = .ok (.goto (-30), 3) := zdcg 2 zdT_dX7_describeClass_159 rfl
theorem dX7_describeClass_166 : decode cX7_describeClass 166 = .ok (.iload_n 3, 1) := zdcg 3 zdT_dX7_describeClass_159 rfl
theorem dX7_describeClass_167 : decode cX7_describeClass 167 = .ok (.iload 7, 2) := zdcg 4 zdT_dX7_describeClass_159 rfl
theorem dX7_describeClass_169 : decode cX7_describeClass 169 = .ok (.iadd, 1) := zdcg 5 zdT_dX7_describeClass_159 rfl
theorem dX7_describeClass_170 : decode cX7_describeClass 170 = .ok (.istore_n 3, 1) := zdcg 6 zdT_dX7_describeClass_159 rfl
theorem dX7_describeClass_171 : decode cX7_describeClass 171 = .ok (.iinc 6 1, 3) := zdcg 7 zdT_dX7_describeClass_159 rfl
theorem dX7_describeClass_174 : decode cX7_describeClass 174 = .ok (.goto (-139), 3) := zdcg 8 zdT_dX7_describeClass_159 rfl
theorem dX7_describeClass_177 : decode cX7_describeClass 177 = .ok (.aload_n 0, 1) := zdcg 9 zdT_dX7_describeClass_159 rfl
theorem dX7_describeClass_178 : decode cX7_describeClass 178 = .ok (.getfield 50, 3) := zdcg 10 zdT_dX7_describeClass_159 rfl
theorem dX7_describeClass_181 : decode cX7_describeClass 181 = .ok (.iload_n 1, 1) := zdcg 11 zdT_dX7_describeClass_159 rfl
theorem dX7_describeClass_182 : decode cX7_describeClass 182 = .ok (.iload 5, 2) := zdcg 12 zdT_dX7_describeClass_159 rfl
theorem dX7_describeClass_184 : decode cX7_describeClass 184 = .ok (.iastore, 1) := zdcg 13 zdT_dX7_describeClass_159 rfl
theorem dX7_describeClass_185 : decode cX7_describeClass 185 = .ok (.aload_n 0, 1) := zdcg 14 zdT_dX7_describeClass_159 rfl
theorem dX7_describeClass_186 : decode cX7_describeClass 186 = .ok (.getfield 41, 3) := zdcg 15 zdT_dX7_describeClass_159 rfl
theorem dX7_describeClass_189 : decode cX7_describeClass 189 = .ok (.iload_n 1, 1) := zdcg 16 zdT_dX7_describeClass_159 rfl
theorem dX7_describeClass_190 : decode cX7_describeClass 190 = .ok (.iload 5, 2) := zdcg 17 zdT_dX7_describeClass_159 rfl
theorem dX7_describeClass_192 : decode cX7_describeClass 192 = .ok (.ifCond .le 13, 3) := zdcg 18 zdT_dX7_describeClass_159 rfl
theorem dX7_describeClass_195 : decode cX7_describeClass 195 = .ok (.aload_n 0, 1) := zdcg 19 zdT_dX7_describeClass_159 rfl
theorem dX7_describeClass_196 : decode cX7_describeClass 196 = .ok (.getfield 35, 3) := zdcg 20 zdT_dX7_describeClass_159 rfl
theorem dX7_describeClass_199 : decode cX7_describeClass 199 = .ok (.iload 5, 2) := zdcg 21 zdT_dX7_describeClass_159 rfl
theorem dX7_describeClass_201 : decode cX7_describeClass 201 = .ok (.idiv, 1) := zdcg 22 zdT_dX7_describeClass_159 rfl
theorem dX7_describeClass_202 : decode cX7_describeClass 202 = .ok (.goto 4, 3) := zdcg 23 zdT_dX7_describeClass_159 rfl
theorem dX7_describeClass_205 : decode cX7_describeClass 205 = .ok (.iconst 0, 1) := zdcg 24 zdT_dX7_describeClass_159 rfl
theorem zdT_dX7_describeClass_206 : zdch cX7_describeClass [(206, (.iastore, 1)), (207, (.return_, 1))] = true := by decide +kernel
theorem dX7_describeClass_206 : decode cX7_describeClass 206 = .ok (.iastore, 1) := zdcg 0 zdT_dX7_describeClass_206 rfl
theorem dX7_describeClass_207 : decode cX7_describeClass 207 = .ok (.return_, 1) := zdcg 1 zdT_dX7_describeClass_206 rfl
theorem zdT_dX7_leastMultiple_0 : zdch cX7_leastMultiple [(0, (.iload_n 0, 1)), (1, (.istore_n 2, 1)), (2, (.iconst 1, 1)), (3, (.istore_n 3, 1)), (4, (.iload_n 3, 1)), (5, (.iload_n 1, 1)), (6, (.if_icmp .ge 19, 3)), (9, (.iload_n 2, 1)), (10, (.iload_n 1, 1)), (11, (.irem, 1)), (12, (.ifCond .eq 13, 3)), (15, (.iload_n 2, 1)), (16, (.iload_n 0, 1)), (17, (.iadd, 1)), (18, (.istore_n 2, 1)), (19, (.iinc 3 1, 3)), (22, (.goto (-18), 3)), (25, (.iload_n 2, 1)), (26, (.ireturn, 1))] = true := by decide +kernel
theorem dX7_leastMultiple_0 : decode cX7_leastMultiple 0 = .ok (.iload_n 0, 1) := zdcg 0 zdT_dX7_leastMultiple_0 rfl
theorem dX7_leastMultiple_1 : decode cX7_leastMultiple 1 = .ok (.istore_n 2, 1) := zdcg 1 zdT_dX7_leastMultiple_0 rfl
theorem dX7_leastMultiple_2 : decode cX7_leastMultiple 2 = .ok (.iconst 1, 1) := zdcg 2 zdT_dX7_leastMultiple_0 rfl
theorem dX7_leastMultiple_3 : decode cX7_leastMultiple 3 = .ok (.istore_n 3, 1) := zdcg 3 zdT_dX7_leastMultiple_0 rfl
theorem dX7_leastMultiple_4 : decode cX7_leastMultiple 4 = .ok (.iload_n 3, 1) := zdcg 4 zdT_dX7_leastMultiple_0 rfl
theorem dX7_leastMultiple_5 : decode cX7_leastMultiple 5 = .ok (.iload_n 1, 1) := zdcg 5 zdT_dX7_leastMultiple_0 rfl
theorem dX7_leastMultiple_6 : decode cX7_leastMultiple 6 = .ok (.if_icmp .ge 19, 3) := zdcg 6 zdT_dX7_leastMultiple_0 rfl
theorem dX7_leastMultiple_9 : decode cX7_leastMultiple 9 = .ok (.iload_n 2, 1) := zdcg 7 zdT_dX7_leastMultiple_0 rfl
theorem dX7_leastMultiple_10 : decode cX7_leastMultiple 10 = .ok (.iload_n 1, 1) := zdcg 8 zdT_dX7_leastMultiple_0 rfl
theorem dX7_leastMultiple_11 : decode cX7_leastMultiple 11 = .ok (.irem, 1) := zdcg 9 zdT_dX7_leastMultiple_0 rfl
theorem dX7_leastMultiple_12 : decode cX7_leastMultiple 12 = .ok (.ifCond .eq 13, 3) := zdcg 10 zdT_dX7_leastMultiple_0 rfl
theorem dX7_leastMultiple_15 : decode cX7_leastMultiple 15 = .ok (.iload_n 2, 1) := zdcg 11 zdT_dX7_leastMultiple_0 rfl
theorem dX7_leastMultiple_16 : decode cX7_leastMultiple 16 = .ok (.iload_n 0, 1) := zdcg 12 zdT_dX7_leastMultiple_0 rfl
theorem dX7_leastMultiple_17 : decode cX7_leastMultiple 17 = .ok (.iadd, 1) := zdcg 13 zdT_dX7_leastMultiple_0 rfl
theorem dX7_leastMultiple_18 : decode cX7_leastMultiple 18 = .ok (.istore_n 2, 1) := zdcg 14 zdT_dX7_leastMultiple_0 rfl
theorem dX7_leastMultiple_19 : decode cX7_leastMultiple 19 = .ok (.iinc 3 1, 3) := zdcg 15 zdT_dX7_leastMultiple_0 rfl
theorem dX7_leastMultiple_22 : decode cX7_leastMultiple 22 = .ok (.goto (-18), 3) := zdcg 16 zdT_dX7_leastMultiple_0 rfl
theorem dX7_leastMultiple_25 : decode cX7_leastMultiple 25 = .ok (.iload_n 2, 1) := zdcg 17 zdT_dX7_leastMultiple_0 rfl
theorem dX7_leastMultiple_26 : decode cX7_leastMultiple 26 = .ok (.ireturn, 1) := zdcg 18 zdT_dX7_leastMultiple_0 rfl
theorem zdT_dX7_makePowers_0 : zdch cX7_makePowers [(0, (.aload_n 0, 1)), (1, (.getfield 9, 3)), (4, (.newarray .int, 2)), (6, (.astore_n 1, 1)), (7, (.iconst 0, 1)), (8, (.istore_n 2, 1)), (9, (.iload_n 2, 1)), (10, (.aload_n 0, 1)), (11, (.getfield 19, 3)), (14, (.if_icmp .ge 51, 3)), (17, (.iconst 1, 1)), (18, (.istore_n 3, 1)), (19, (.iload_n 3, 1)), (20, (.bipush 6, 2)), (22, (.if_icmp .gt 37, 3)), (25, (.aload_n 0, 1)), (26, (.getfield 55, 3)), (29, (.iload_n 2, 1)), (30, (.aaload, 1)), (31, (.iload_n 3, 1)), (32, (.aload_n 0, 1)), (33, (.aload_n 1, 1)), (34, (.aload_n 0, 1)), (35, (.aload_n 0, 1)), (36, (.getfield 24, 3))] = true := by decide +kernel
theorem dX7_makePowers_0 : decode cX7_makePowers 0 = .ok (.aload_n 0, 1) := zdcg 0 zdT_dX7_makePowers_0 rfl
theorem dX7_makePowers_1 : decode cX7_makePowers 1 = .ok (.getfield 9, 3) := zdcg 1 zdT_dX7_makePowers_0 rfl
theorem dX7_makePowers_4 : decode cX7_makePowers 4 = .ok (.newarray .int, 2) := zdcg 2 zdT_dX7_makePowers_0 rfl
theorem dX7_makePowers_6 : decode cX7_makePowers 6 = .ok (.astore_n 1, 1) := zdcg 3 zdT_dX7_makePowers_0 rfl
theorem dX7_makePowers_7 : decode cX7_makePowers 7 = .ok (.iconst 0, 1) := zdcg 4 zdT_dX7_makePowers_0 rfl
theorem dX7_makePowers_8 : decode cX7_makePowers 8 = .ok (.istore_n 2, 1) := zdcg 5 zdT_dX7_makePowers_0 rfl
theorem dX7_makePowers_9 : decode cX7_makePowers 9 = .ok (.iload_n 2, 1) := zdcg 6 zdT_dX7_makePowers_0 rfl
theorem dX7_makePowers_10 : decode cX7_makePowers 10 = .ok (.aload_n 0, 1) := zdcg 7 zdT_dX7_makePowers_0 rfl
theorem dX7_makePowers_11 : decode cX7_makePowers 11 = .ok (.getfield 19, 3) := zdcg 8 zdT_dX7_makePowers_0 rfl
theorem dX7_makePowers_14 : decode cX7_makePowers 14 = .ok (.if_icmp .ge 51, 3) := zdcg 9 zdT_dX7_makePowers_0 rfl
theorem dX7_makePowers_17 : decode cX7_makePowers 17 = .ok (.iconst 1, 1) := zdcg 10 zdT_dX7_makePowers_0 rfl
theorem dX7_makePowers_18 : decode cX7_makePowers 18 = .ok (.istore_n 3, 1) := zdcg 11 zdT_dX7_makePowers_0 rfl
theorem dX7_makePowers_19 : decode cX7_makePowers 19 = .ok (.iload_n 3, 1) := zdcg 12 zdT_dX7_makePowers_0 rfl
theorem dX7_makePowers_20 : decode cX7_makePowers 20 = .ok (.bipush 6, 2) := zdcg 13 zdT_dX7_makePowers_0 rfl
theorem dX7_makePowers_22 : decode cX7_makePowers 22 = .ok (.if_icmp .gt 37, 3) := zdcg 14 zdT_dX7_makePowers_0 rfl
theorem dX7_makePowers_25 : decode cX7_makePowers 25 = .ok (.aload_n 0, 1) := zdcg 15 zdT_dX7_makePowers_0 rfl
theorem dX7_makePowers_26 : decode cX7_makePowers 26 = .ok (.getfield 55, 3) := zdcg 16 zdT_dX7_makePowers_0 rfl
theorem dX7_makePowers_29 : decode cX7_makePowers 29 = .ok (.iload_n 2, 1) := zdcg 17 zdT_dX7_makePowers_0 rfl
theorem dX7_makePowers_30 : decode cX7_makePowers 30 = .ok (.aaload, 1) := zdcg 18 zdT_dX7_makePowers_0 rfl
theorem dX7_makePowers_31 : decode cX7_makePowers 31 = .ok (.iload_n 3, 1) := zdcg 19 zdT_dX7_makePowers_0 rfl
theorem dX7_makePowers_32 : decode cX7_makePowers 32 = .ok (.aload_n 0, 1) := zdcg 20 zdT_dX7_makePowers_0 rfl
theorem dX7_makePowers_33 : decode cX7_makePowers 33 = .ok (.aload_n 1, 1) := zdcg 21 zdT_dX7_makePowers_0 rfl
theorem dX7_makePowers_34 : decode cX7_makePowers 34 = .ok (.aload_n 0, 1) := zdcg 22 zdT_dX7_makePowers_0 rfl
theorem dX7_makePowers_35 : decode cX7_makePowers 35 = .ok (.aload_n 0, 1) := zdcg 23 zdT_dX7_makePowers_0 rfl
theorem dX7_makePowers_36 : decode cX7_makePowers 36 = .ok (.getfield 24, 3) := zdcg 24 zdT_dX7_makePowers_0 rfl
theorem zdT_dX7_makePowers_39 : zdch cX7_makePowers [(39, (.iload_n 2, 1)), (40, (.aaload, 1)), (41, (.getfield 98, 3)), (44, (.iload_n 3, 1)), (45, (.aload_n 1, 1)), (46, (.invokevirtual 116, 3)), (49, (.invokevirtual 74, 3)), (52, (.iastore, 1)), (53, (.iinc 3 1, 3)), (56, (.goto (-37), 3)), (59, (.iinc 2 1, 3)), (62, (.goto (-53), 3)), (65, (.return_, 1))] = true := by decide +kernel
theorem dX7_makePowers_39 : decode cX7_makePowers 39 = .ok (.iload_n 2, 1) := zdcg 0 zdT_dX7_makePowers_39 rfl
theorem dX7_makePowers_40 : decode cX7_makePowers 40 = .ok (.aaload, 1) := zdcg 1 zdT_dX7_makePowers_39 rfl
theorem dX7_makePowers_41 : decode cX7_makePowers 41 = .ok (.getfield 98, 3) := zdcg 2 zdT_dX7_makePowers_39 rfl
theorem dX7_makePowers_44 : decode cX7_makePowers 44 = .ok (.iload_n 3, 1) := zdcg 3 zdT_dX7_makePowers_39 rfl
theorem dX7_makePowers_45 : decode cX7_makePowers 45 = .ok (.aload_n 1, 1) := zdcg 4 zdT_dX7_makePowers_39 rfl
theorem dX7_makePowers_46 : decode cX7_makePowers 46 = .ok (.invokevirtual 116, 3) := zdcg 5 zdT_dX7_makePowers_39 rfl
theorem dX7_makePowers_49 : decode cX7_makePowers 49 = .ok (.invokevirtual 74, 3) := zdcg 6 zdT_dX7_makePowers_39 rfl
theorem dX7_makePowers_52 : decode cX7_makePowers 52 = .ok (.iastore, 1) := zdcg 7 zdT_dX7_makePowers_39 rfl
theorem dX7_makePowers_53 : decode cX7_makePowers 53 = .ok (.iinc 3 1, 3) := zdcg 8 zdT_dX7_makePowers_39 rfl
theorem dX7_makePowers_56 : decode cX7_makePowers 56 = .ok (.goto (-37), 3) := zdcg 9 zdT_dX7_makePowers_39 rfl
theorem dX7_makePowers_59 : decode cX7_makePowers 59 = .ok (.iinc 2 1, 3) := zdcg 10 zdT_dX7_makePowers_39 rfl
theorem dX7_makePowers_62 : decode cX7_makePowers 62 = .ok (.goto (-53), 3) := zdcg 11 zdT_dX7_makePowers_39 rfl
theorem dX7_makePowers_65 : decode cX7_makePowers 65 = .ok (.return_, 1) := zdcg 12 zdT_dX7_makePowers_39 rfl
theorem zdT_dX7_raise_0 : zdch cX7_raise [(0, (.iconst 0, 1)), (1, (.istore 4, 2)), (3, (.aload_n 0, 1)), (4, (.getfield 9, 3)), (7, (.istore 5, 2)), (9, (.iload 5, 2)), (11, (.ifCond .le 85, 3)), (14, (.iconst 0, 1)), (15, (.istore 6, 2)), (17, (.iload 6, 2)), (19, (.aload_n 1, 1)), (20, (.arraylength, 1)), (21, (.if_icmp .ge 69, 3)), (24, (.aload_n 1, 1)), (25, (.iload 6, 2)), (27, (.iaload, 1)), (28, (.i2l, 1)), (29, (.iload_n 2, 1)), (30, (.i2l, 1)), (31, (.invokestatic 120, 3)), (34, (.l2i, 1)), (35, (.istore 7, 2)), (37, (.iload 7, 2)), (39, (.iload 5, 2)), (41, (.imul, 1))] = true := by decide +kernel
theorem dX7_raise_0 : decode cX7_raise 0 = .ok (.iconst 0, 1) := zdcg 0 zdT_dX7_raise_0 rfl
theorem dX7_raise_1 : decode cX7_raise 1 = .ok (.istore 4, 2) := zdcg 1 zdT_dX7_raise_0 rfl
theorem dX7_raise_3 : decode cX7_raise 3 = .ok (.aload_n 0, 1) := zdcg 2 zdT_dX7_raise_0 rfl
theorem dX7_raise_4 : decode cX7_raise 4 = .ok (.getfield 9, 3) := zdcg 3 zdT_dX7_raise_0 rfl
theorem dX7_raise_7 : decode cX7_raise 7 = .ok (.istore 5, 2) := zdcg 4 zdT_dX7_raise_0 rfl
theorem dX7_raise_9 : decode cX7_raise 9 = .ok (.iload 5, 2) := zdcg 5 zdT_dX7_raise_0 rfl
theorem dX7_raise_11 : decode cX7_raise 11 = .ok (.ifCond .le 85, 3) := zdcg 6 zdT_dX7_raise_0 rfl
theorem dX7_raise_14 : decode cX7_raise 14 = .ok (.iconst 0, 1) := zdcg 7 zdT_dX7_raise_0 rfl
theorem dX7_raise_15 : decode cX7_raise 15 = .ok (.istore 6, 2) := zdcg 8 zdT_dX7_raise_0 rfl
theorem dX7_raise_17 : decode cX7_raise 17 = .ok (.iload 6, 2) := zdcg 9 zdT_dX7_raise_0 rfl
theorem dX7_raise_19 : decode cX7_raise 19 = .ok (.aload_n 1, 1) := zdcg 10 zdT_dX7_raise_0 rfl
theorem dX7_raise_20 : decode cX7_raise 20 = .ok (.arraylength, 1) := zdcg 11 zdT_dX7_raise_0 rfl
theorem dX7_raise_21 : decode cX7_raise 21 = .ok (.if_icmp .ge 69, 3) := zdcg 12 zdT_dX7_raise_0 rfl
theorem dX7_raise_24 : decode cX7_raise 24 = .ok (.aload_n 1, 1) := zdcg 13 zdT_dX7_raise_0 rfl
theorem dX7_raise_25 : decode cX7_raise 25 = .ok (.iload 6, 2) := zdcg 14 zdT_dX7_raise_0 rfl
theorem dX7_raise_27 : decode cX7_raise 27 = .ok (.iaload, 1) := zdcg 15 zdT_dX7_raise_0 rfl
theorem dX7_raise_28 : decode cX7_raise 28 = .ok (.i2l, 1) := zdcg 16 zdT_dX7_raise_0 rfl
theorem dX7_raise_29 : decode cX7_raise 29 = .ok (.iload_n 2, 1) := zdcg 17 zdT_dX7_raise_0 rfl
theorem dX7_raise_30 : decode cX7_raise 30 = .ok (.i2l, 1) := zdcg 18 zdT_dX7_raise_0 rfl
theorem dX7_raise_31 : decode cX7_raise 31 = .ok (.invokestatic 120, 3) := zdcg 19 zdT_dX7_raise_0 rfl
theorem dX7_raise_34 : decode cX7_raise 34 = .ok (.l2i, 1) := zdcg 20 zdT_dX7_raise_0 rfl
theorem dX7_raise_35 : decode cX7_raise 35 = .ok (.istore 7, 2) := zdcg 21 zdT_dX7_raise_0 rfl
theorem dX7_raise_37 : decode cX7_raise 37 = .ok (.iload 7, 2) := zdcg 22 zdT_dX7_raise_0 rfl
theorem dX7_raise_39 : decode cX7_raise 39 = .ok (.iload 5, 2) := zdcg 23 zdT_dX7_raise_0 rfl
theorem dX7_raise_41 : decode cX7_raise 41 = .ok (.imul, 1) := zdcg 24 zdT_dX7_raise_0 rfl
theorem zdT_dX7_raise_42 : zdch cX7_raise [(42, (.aload_n 1, 1)), (43, (.iload 6, 2)), (45, (.iaload, 1)), (46, (.if_icmp .eq 6, 3)), (49, (.goto 35, 3)), (52, (.iconst 0, 1)), (53, (.istore 8, 2)), (55, (.iload 8, 2)), (57, (.iload 7, 2)), (59, (.if_icmp .ge 25, 3)), (62, (.iload 4, 2)), (64, (.aload_n 3, 1)), (65, (.arraylength, 1)), (66, (.if_icmp .ge 18, 3)), (69, (.aload_n 3, 1)), (70, (.iload 4, 2)), (72, (.iload 5, 2)), (74, (.iastore, 1)), (75, (.iinc 4 1, 3)), (78, (.iinc 8 1, 3)), (81, (.goto (-26), 3)), (84, (.iinc 6 1, 3)), (87, (.goto (-70), 3)), (90, (.iinc 5 (-1), 3)), (93, (.goto (-84), 3))] = true := by decide +kernel
theorem dX7_raise_42 : decode cX7_raise 42 = .ok (.aload_n 1, 1) := zdcg 0 zdT_dX7_raise_42 rfl
theorem dX7_raise_43 : decode cX7_raise 43 = .ok (.iload 6, 2) := zdcg 1 zdT_dX7_raise_42 rfl
theorem dX7_raise_45 : decode cX7_raise 45 = .ok (.iaload, 1) := zdcg 2 zdT_dX7_raise_42 rfl
theorem dX7_raise_46 : decode cX7_raise 46 = .ok (.if_icmp .eq 6, 3) := zdcg 3 zdT_dX7_raise_42 rfl
theorem dX7_raise_49 : decode cX7_raise 49 = .ok (.goto 35, 3) := zdcg 4 zdT_dX7_raise_42 rfl
theorem dX7_raise_52 : decode cX7_raise 52 = .ok (.iconst 0, 1) := zdcg 5 zdT_dX7_raise_42 rfl
theorem dX7_raise_53 : decode cX7_raise 53 = .ok (.istore 8, 2) := zdcg 6 zdT_dX7_raise_42 rfl
theorem dX7_raise_55 : decode cX7_raise 55 = .ok (.iload 8, 2) := zdcg 7 zdT_dX7_raise_42 rfl
theorem dX7_raise_57 : decode cX7_raise 57 = .ok (.iload 7, 2) := zdcg 8 zdT_dX7_raise_42 rfl
theorem dX7_raise_59 : decode cX7_raise 59 = .ok (.if_icmp .ge 25, 3) := zdcg 9 zdT_dX7_raise_42 rfl
theorem dX7_raise_62 : decode cX7_raise 62 = .ok (.iload 4, 2) := zdcg 10 zdT_dX7_raise_42 rfl
theorem dX7_raise_64 : decode cX7_raise 64 = .ok (.aload_n 3, 1) := zdcg 11 zdT_dX7_raise_42 rfl
theorem dX7_raise_65 : decode cX7_raise 65 = .ok (.arraylength, 1) := zdcg 12 zdT_dX7_raise_42 rfl
theorem dX7_raise_66 : decode cX7_raise 66 = .ok (.if_icmp .ge 18, 3) := zdcg 13 zdT_dX7_raise_42 rfl
theorem dX7_raise_69 : decode cX7_raise 69 = .ok (.aload_n 3, 1) := zdcg 14 zdT_dX7_raise_42 rfl
theorem dX7_raise_70 : decode cX7_raise 70 = .ok (.iload 4, 2) := zdcg 15 zdT_dX7_raise_42 rfl
theorem dX7_raise_72 : decode cX7_raise 72 = .ok (.iload 5, 2) := zdcg 16 zdT_dX7_raise_42 rfl
theorem dX7_raise_74 : decode cX7_raise 74 = .ok (.iastore, 1) := zdcg 17 zdT_dX7_raise_42 rfl
theorem dX7_raise_75 : decode cX7_raise 75 = .ok (.iinc 4 1, 3) := zdcg 18 zdT_dX7_raise_42 rfl
theorem dX7_raise_78 : decode cX7_raise 78 = .ok (.iinc 8 1, 3) := zdcg 19 zdT_dX7_raise_42 rfl
theorem dX7_raise_81 : decode cX7_raise 81 = .ok (.goto (-26), 3) := zdcg 20 zdT_dX7_raise_42 rfl
theorem dX7_raise_84 : decode cX7_raise 84 = .ok (.iinc 6 1, 3) := zdcg 21 zdT_dX7_raise_42 rfl
theorem dX7_raise_87 : decode cX7_raise 87 = .ok (.goto (-70), 3) := zdcg 22 zdT_dX7_raise_42 rfl
theorem dX7_raise_90 : decode cX7_raise 90 = .ok (.iinc 5 (-1), 3) := zdcg 23 zdT_dX7_raise_42 rfl
theorem dX7_raise_93 : decode cX7_raise 93 = .ok (.goto (-84), 3) := zdcg 24 zdT_dX7_raise_42 rfl
theorem zdT_dX7_raise_96 : zdch cX7_raise [(96, (.iload 4, 2)), (98, (.ireturn, 1))] = true := by decide +kernel
theorem dX7_raise_96 : decode cX7_raise 96 = .ok (.iload 4, 2) := zdcg 0 zdT_dX7_raise_96 rfl
theorem dX7_raise_98 : decode cX7_raise 98 = .ok (.ireturn, 1) := zdcg 1 zdT_dX7_raise_96 rfl
theorem zdT_dX7_makeMarks_0 : zdch cX7_makeMarks [(0, (.iconst 0, 1)), (1, (.istore_n 1, 1)), (2, (.iload_n 1, 1)), (3, (.aload_n 0, 1)), (4, (.getfield 19, 3)), (7, (.if_icmp .ge 63, 3)), (10, (.aload_n 0, 1)), (11, (.getfield 24, 3)), (14, (.iload_n 1, 1)), (15, (.aaload, 1)), (16, (.getfield 98, 3)), (19, (.invokevirtual 124, 3)), (22, (.checkcast 125, 3)), (25, (.astore_n 2, 1)), (26, (.iconst 0, 1)), (27, (.istore_n 3, 1)), (28, (.iload_n 3, 1)), (29, (.aload_n 0, 1)), (30, (.getfield 19, 3)), (33, (.if_icmp .ge 31, 3)), (36, (.aload_n 0, 1)), (37, (.getfield 61, 3)), (40, (.iload_n 1, 1)), (41, (.aaload, 1)), (42, (.iload_n 3, 1))] = true := by decide +kernel
theorem dX7_makeMarks_0 : decode cX7_makeMarks 0 = .ok (.iconst 0, 1) := zdcg 0 zdT_dX7_makeMarks_0 rfl
theorem dX7_makeMarks_1 : decode cX7_makeMarks 1 = .ok (.istore_n 1, 1) := zdcg 1 zdT_dX7_makeMarks_0 rfl
theorem dX7_makeMarks_2 : decode cX7_makeMarks 2 = .ok (.iload_n 1, 1) := zdcg 2 zdT_dX7_makeMarks_0 rfl
theorem dX7_makeMarks_3 : decode cX7_makeMarks 3 = .ok (.aload_n 0, 1) := zdcg 3 zdT_dX7_makeMarks_0 rfl
theorem dX7_makeMarks_4 : decode cX7_makeMarks 4 = .ok (.getfield 19, 3) := zdcg 4 zdT_dX7_makeMarks_0 rfl
theorem dX7_makeMarks_7 : decode cX7_makeMarks 7 = .ok (.if_icmp .ge 63, 3) := zdcg 5 zdT_dX7_makeMarks_0 rfl
theorem dX7_makeMarks_10 : decode cX7_makeMarks 10 = .ok (.aload_n 0, 1) := zdcg 6 zdT_dX7_makeMarks_0 rfl
theorem dX7_makeMarks_11 : decode cX7_makeMarks 11 = .ok (.getfield 24, 3) := zdcg 7 zdT_dX7_makeMarks_0 rfl
theorem dX7_makeMarks_14 : decode cX7_makeMarks 14 = .ok (.iload_n 1, 1) := zdcg 8 zdT_dX7_makeMarks_0 rfl
theorem dX7_makeMarks_15 : decode cX7_makeMarks 15 = .ok (.aaload, 1) := zdcg 9 zdT_dX7_makeMarks_0 rfl
theorem dX7_makeMarks_16 : decode cX7_makeMarks 16 = .ok (.getfield 98, 3) := zdcg 10 zdT_dX7_makeMarks_0 rfl
theorem dX7_makeMarks_19 : decode cX7_makeMarks 19 = .ok (.invokevirtual 124, 3) := zdcg 11 zdT_dX7_makeMarks_0 rfl
theorem dX7_makeMarks_22 : decode cX7_makeMarks 22 = .ok (.checkcast 125, 3) := zdcg 12 zdT_dX7_makeMarks_0 rfl
theorem dX7_makeMarks_25 : decode cX7_makeMarks 25 = .ok (.astore_n 2, 1) := zdcg 13 zdT_dX7_makeMarks_0 rfl
theorem dX7_makeMarks_26 : decode cX7_makeMarks 26 = .ok (.iconst 0, 1) := zdcg 14 zdT_dX7_makeMarks_0 rfl
theorem dX7_makeMarks_27 : decode cX7_makeMarks 27 = .ok (.istore_n 3, 1) := zdcg 15 zdT_dX7_makeMarks_0 rfl
theorem dX7_makeMarks_28 : decode cX7_makeMarks 28 = .ok (.iload_n 3, 1) := zdcg 16 zdT_dX7_makeMarks_0 rfl
theorem dX7_makeMarks_29 : decode cX7_makeMarks 29 = .ok (.aload_n 0, 1) := zdcg 17 zdT_dX7_makeMarks_0 rfl
theorem dX7_makeMarks_30 : decode cX7_makeMarks 30 = .ok (.getfield 19, 3) := zdcg 18 zdT_dX7_makeMarks_0 rfl
theorem dX7_makeMarks_33 : decode cX7_makeMarks 33 = .ok (.if_icmp .ge 31, 3) := zdcg 19 zdT_dX7_makeMarks_0 rfl
theorem dX7_makeMarks_36 : decode cX7_makeMarks 36 = .ok (.aload_n 0, 1) := zdcg 20 zdT_dX7_makeMarks_0 rfl
theorem dX7_makeMarks_37 : decode cX7_makeMarks 37 = .ok (.getfield 61, 3) := zdcg 21 zdT_dX7_makeMarks_0 rfl
theorem dX7_makeMarks_40 : decode cX7_makeMarks 40 = .ok (.iload_n 1, 1) := zdcg 22 zdT_dX7_makeMarks_0 rfl
theorem dX7_makeMarks_41 : decode cX7_makeMarks 41 = .ok (.aaload, 1) := zdcg 23 zdT_dX7_makeMarks_0 rfl
theorem dX7_makeMarks_42 : decode cX7_makeMarks 42 = .ok (.iload_n 3, 1) := zdcg 24 zdT_dX7_makeMarks_0 rfl
theorem zdT_dX7_makeMarks_43 : zdch cX7_makeMarks [(43, (.aload_n 0, 1)), (44, (.getfield 24, 3)), (47, (.iload_n 3, 1)), (48, (.aaload, 1)), (49, (.getfield 98, 3)), (52, (.iconst 0, 1)), (53, (.aload_n 2, 1)), (54, (.invokestatic 129, 3)), (57, (.iastore, 1)), (58, (.iinc 3 1, 3)), (61, (.goto (-33), 3)), (64, (.iinc 1 1, 3)), (67, (.goto (-65), 3)), (70, (.return_, 1))] = true := by decide +kernel
theorem dX7_makeMarks_43 : decode cX7_makeMarks 43 = .ok (.aload_n 0, 1) := zdcg 0 zdT_dX7_makeMarks_43 rfl
theorem dX7_makeMarks_44 : decode cX7_makeMarks 44 = .ok (.getfield 24, 3) := zdcg 1 zdT_dX7_makeMarks_43 rfl
theorem dX7_makeMarks_47 : decode cX7_makeMarks 47 = .ok (.iload_n 3, 1) := zdcg 2 zdT_dX7_makeMarks_43 rfl
theorem dX7_makeMarks_48 : decode cX7_makeMarks 48 = .ok (.aaload, 1) := zdcg 3 zdT_dX7_makeMarks_43 rfl
theorem dX7_makeMarks_49 : decode cX7_makeMarks 49 = .ok (.getfield 98, 3) := zdcg 4 zdT_dX7_makeMarks_43 rfl
theorem dX7_makeMarks_52 : decode cX7_makeMarks 52 = .ok (.iconst 0, 1) := zdcg 5 zdT_dX7_makeMarks_43 rfl
theorem dX7_makeMarks_53 : decode cX7_makeMarks 53 = .ok (.aload_n 2, 1) := zdcg 6 zdT_dX7_makeMarks_43 rfl
theorem dX7_makeMarks_54 : decode cX7_makeMarks 54 = .ok (.invokestatic 129, 3) := zdcg 7 zdT_dX7_makeMarks_43 rfl
theorem dX7_makeMarks_57 : decode cX7_makeMarks 57 = .ok (.iastore, 1) := zdcg 8 zdT_dX7_makeMarks_43 rfl
theorem dX7_makeMarks_58 : decode cX7_makeMarks 58 = .ok (.iinc 3 1, 3) := zdcg 9 zdT_dX7_makeMarks_43 rfl
theorem dX7_makeMarks_61 : decode cX7_makeMarks 61 = .ok (.goto (-33), 3) := zdcg 10 zdT_dX7_makeMarks_43 rfl
theorem dX7_makeMarks_64 : decode cX7_makeMarks 64 = .ok (.iinc 1 1, 3) := zdcg 11 zdT_dX7_makeMarks_43 rfl
theorem dX7_makeMarks_67 : decode cX7_makeMarks 67 = .ok (.goto (-65), 3) := zdcg 12 zdT_dX7_makeMarks_43 rfl
theorem dX7_makeMarks_70 : decode cX7_makeMarks 70 = .ok (.return_, 1) := zdcg 13 zdT_dX7_makeMarks_43 rfl
theorem zdT_dX7_placings_0 : zdch cX7_placings [(0, (.iload_n 1, 1)), (1, (.aload_n 0, 1)), (2, (.arraylength, 1)), (3, (.if_icmp .lt 5, 3)), (6, (.iconst 1, 1)), (7, (.ireturn, 1)), (8, (.iconst 0, 1)), (9, (.istore_n 3, 1)), (10, (.aload_n 0, 1)), (11, (.iload_n 1, 1)), (12, (.iaload, 1)), (13, (.istore 4, 2)), (15, (.iconst 0, 1)), (16, (.istore 5, 2)), (18, (.iload 5, 2)), (20, (.aload_n 2, 1)), (21, (.arraylength, 1)), (22, (.if_icmp .ge 47, 3)), (25, (.aload_n 2, 1)), (26, (.iload 5, 2)), (28, (.iaload, 1)), (29, (.iload 4, 2)), (31, (.if_icmp .lt 32, 3)), (34, (.aload_n 2, 1)), (35, (.iload 5, 2))] = true := by decide +kernel
theorem dX7_placings_0 : decode cX7_placings 0 = .ok (.iload_n 1, 1) := zdcg 0 zdT_dX7_placings_0 rfl
theorem dX7_placings_1 : decode cX7_placings 1 = .ok (.aload_n 0, 1) := zdcg 1 zdT_dX7_placings_0 rfl
theorem dX7_placings_2 : decode cX7_placings 2 = .ok (.arraylength, 1) := zdcg 2 zdT_dX7_placings_0 rfl
theorem dX7_placings_3 : decode cX7_placings 3 = .ok (.if_icmp .lt 5, 3) := zdcg 3 zdT_dX7_placings_0 rfl
theorem dX7_placings_6 : decode cX7_placings 6 = .ok (.iconst 1, 1) := zdcg 4 zdT_dX7_placings_0 rfl
theorem dX7_placings_7 : decode cX7_placings 7 = .ok (.ireturn, 1) := zdcg 5 zdT_dX7_placings_0 rfl
theorem dX7_placings_8 : decode cX7_placings 8 = .ok (.iconst 0, 1) := zdcg 6 zdT_dX7_placings_0 rfl
theorem dX7_placings_9 : decode cX7_placings 9 = .ok (.istore_n 3, 1) := zdcg 7 zdT_dX7_placings_0 rfl
theorem dX7_placings_10 : decode cX7_placings 10 = .ok (.aload_n 0, 1) := zdcg 8 zdT_dX7_placings_0 rfl
theorem dX7_placings_11 : decode cX7_placings 11 = .ok (.iload_n 1, 1) := zdcg 9 zdT_dX7_placings_0 rfl
theorem dX7_placings_12 : decode cX7_placings 12 = .ok (.iaload, 1) := zdcg 10 zdT_dX7_placings_0 rfl
theorem dX7_placings_13 : decode cX7_placings 13 = .ok (.istore 4, 2) := zdcg 11 zdT_dX7_placings_0 rfl
theorem dX7_placings_15 : decode cX7_placings 15 = .ok (.iconst 0, 1) := zdcg 12 zdT_dX7_placings_0 rfl
theorem dX7_placings_16 : decode cX7_placings 16 = .ok (.istore 5, 2) := zdcg 13 zdT_dX7_placings_0 rfl
theorem dX7_placings_18 : decode cX7_placings 18 = .ok (.iload 5, 2) := zdcg 14 zdT_dX7_placings_0 rfl
theorem dX7_placings_20 : decode cX7_placings 20 = .ok (.aload_n 2, 1) := zdcg 15 zdT_dX7_placings_0 rfl
theorem dX7_placings_21 : decode cX7_placings 21 = .ok (.arraylength, 1) := zdcg 16 zdT_dX7_placings_0 rfl
theorem dX7_placings_22 : decode cX7_placings 22 = .ok (.if_icmp .ge 47, 3) := zdcg 17 zdT_dX7_placings_0 rfl
theorem dX7_placings_25 : decode cX7_placings 25 = .ok (.aload_n 2, 1) := zdcg 18 zdT_dX7_placings_0 rfl
theorem dX7_placings_26 : decode cX7_placings 26 = .ok (.iload 5, 2) := zdcg 19 zdT_dX7_placings_0 rfl
theorem dX7_placings_28 : decode cX7_placings 28 = .ok (.iaload, 1) := zdcg 20 zdT_dX7_placings_0 rfl
theorem dX7_placings_29 : decode cX7_placings 29 = .ok (.iload 4, 2) := zdcg 21 zdT_dX7_placings_0 rfl
theorem dX7_placings_31 : decode cX7_placings 31 = .ok (.if_icmp .lt 32, 3) := zdcg 22 zdT_dX7_placings_0 rfl
theorem dX7_placings_34 : decode cX7_placings 34 = .ok (.aload_n 2, 1) := zdcg 23 zdT_dX7_placings_0 rfl
theorem dX7_placings_35 : decode cX7_placings 35 = .ok (.iload 5, 2) := zdcg 24 zdT_dX7_placings_0 rfl
theorem zdT_dX7_placings_37 : zdch cX7_placings [(37, (.dup2, 1)), (38, (.iaload, 1)), (39, (.iload 4, 2)), (41, (.isub, 1)), (42, (.iastore, 1)), (43, (.iload_n 3, 1)), (44, (.aload_n 0, 1)), (45, (.iload_n 1, 1)), (46, (.iconst 1, 1)), (47, (.iadd, 1)), (48, (.aload_n 2, 1)), (49, (.invokestatic 129, 3)), (52, (.iadd, 1)), (53, (.istore_n 3, 1)), (54, (.aload_n 2, 1)), (55, (.iload 5, 2)), (57, (.dup2, 1)), (58, (.iaload, 1)), (59, (.iload 4, 2)), (61, (.iadd, 1)), (62, (.iastore, 1)), (63, (.iinc 5 1, 3)), (66, (.goto (-48), 3)), (69, (.iload_n 3, 1)), (70, (.ireturn, 1))] = true := by decide +kernel
theorem dX7_placings_37 : decode cX7_placings 37 = .ok (.dup2, 1) := zdcg 0 zdT_dX7_placings_37 rfl
theorem dX7_placings_38 : decode cX7_placings 38 = .ok (.iaload, 1) := zdcg 1 zdT_dX7_placings_37 rfl
theorem dX7_placings_39 : decode cX7_placings 39 = .ok (.iload 4, 2) := zdcg 2 zdT_dX7_placings_37 rfl
theorem dX7_placings_41 : decode cX7_placings 41 = .ok (.isub, 1) := zdcg 3 zdT_dX7_placings_37 rfl
theorem dX7_placings_42 : decode cX7_placings 42 = .ok (.iastore, 1) := zdcg 4 zdT_dX7_placings_37 rfl
theorem dX7_placings_43 : decode cX7_placings 43 = .ok (.iload_n 3, 1) := zdcg 5 zdT_dX7_placings_37 rfl
theorem dX7_placings_44 : decode cX7_placings 44 = .ok (.aload_n 0, 1) := zdcg 6 zdT_dX7_placings_37 rfl
theorem dX7_placings_45 : decode cX7_placings 45 = .ok (.iload_n 1, 1) := zdcg 7 zdT_dX7_placings_37 rfl
theorem dX7_placings_46 : decode cX7_placings 46 = .ok (.iconst 1, 1) := zdcg 8 zdT_dX7_placings_37 rfl
theorem dX7_placings_47 : decode cX7_placings 47 = .ok (.iadd, 1) := zdcg 9 zdT_dX7_placings_37 rfl
theorem dX7_placings_48 : decode cX7_placings 48 = .ok (.aload_n 2, 1) := zdcg 10 zdT_dX7_placings_37 rfl
theorem dX7_placings_49 : decode cX7_placings 49 = .ok (.invokestatic 129, 3) := zdcg 11 zdT_dX7_placings_37 rfl
theorem dX7_placings_52 : decode cX7_placings 52 = .ok (.iadd, 1) := zdcg 12 zdT_dX7_placings_37 rfl
theorem dX7_placings_53 : decode cX7_placings 53 = .ok (.istore_n 3, 1) := zdcg 13 zdT_dX7_placings_37 rfl
theorem dX7_placings_54 : decode cX7_placings 54 = .ok (.aload_n 2, 1) := zdcg 14 zdT_dX7_placings_37 rfl
theorem dX7_placings_55 : decode cX7_placings 55 = .ok (.iload 5, 2) := zdcg 15 zdT_dX7_placings_37 rfl
theorem dX7_placings_57 : decode cX7_placings 57 = .ok (.dup2, 1) := zdcg 16 zdT_dX7_placings_37 rfl
theorem dX7_placings_58 : decode cX7_placings 58 = .ok (.iaload, 1) := zdcg 17 zdT_dX7_placings_37 rfl
theorem dX7_placings_59 : decode cX7_placings 59 = .ok (.iload 4, 2) := zdcg 18 zdT_dX7_placings_37 rfl
theorem dX7_placings_61 : decode cX7_placings 61 = .ok (.iadd, 1) := zdcg 19 zdT_dX7_placings_37 rfl
theorem dX7_placings_62 : decode cX7_placings 62 = .ok (.iastore, 1) := zdcg 20 zdT_dX7_placings_37 rfl
theorem dX7_placings_63 : decode cX7_placings 63 = .ok (.iinc 5 1, 3) := zdcg 21 zdT_dX7_placings_37 rfl
theorem dX7_placings_66 : decode cX7_placings 66 = .ok (.goto (-48), 3) := zdcg 22 zdT_dX7_placings_37 rfl
theorem dX7_placings_69 : decode cX7_placings 69 = .ok (.iload_n 3, 1) := zdcg 23 zdT_dX7_placings_37 rfl
theorem dX7_placings_70 : decode cX7_placings 70 = .ok (.ireturn, 1) := zdcg 24 zdT_dX7_placings_37 rfl
theorem zdT_dX7_makeCharacters_0 : zdch cX7_makeCharacters [(0, (.iconst 0, 1)), (1, (.istore_n 1, 1)), (2, (.iload_n 1, 1)), (3, (.aload_n 0, 1)), (4, (.getfield 19, 3)), (7, (.if_icmp .ge 101, 3)), (10, (.aload_n 0, 1)), (11, (.getfield 61, 3)), (14, (.iload_n 1, 1)), (15, (.aaload, 1)), (16, (.iconst 0, 1)), (17, (.aload_n 0, 1)), (18, (.getfield 64, 3)), (21, (.iload_n 1, 1)), (22, (.aaload, 1)), (23, (.iconst 0, 1)), (24, (.aload_n 0, 1)), (25, (.getfield 19, 3)), (28, (.invokestatic 132, 3)), (31, (.iconst 0, 1)), (32, (.istore_n 2, 1)), (33, (.iload_n 2, 1)), (34, (.iload_n 1, 1)), (35, (.if_icmp .ge 67, 3)), (38, (.aload_n 0, 1))] = true := by decide +kernel
theorem dX7_makeCharacters_0 : decode cX7_makeCharacters 0 = .ok (.iconst 0, 1) := zdcg 0 zdT_dX7_makeCharacters_0 rfl
theorem dX7_makeCharacters_1 : decode cX7_makeCharacters 1 = .ok (.istore_n 1, 1) := zdcg 1 zdT_dX7_makeCharacters_0 rfl
theorem dX7_makeCharacters_2 : decode cX7_makeCharacters 2 = .ok (.iload_n 1, 1) := zdcg 2 zdT_dX7_makeCharacters_0 rfl
theorem dX7_makeCharacters_3 : decode cX7_makeCharacters 3 = .ok (.aload_n 0, 1) := zdcg 3 zdT_dX7_makeCharacters_0 rfl
theorem dX7_makeCharacters_4 : decode cX7_makeCharacters 4 = .ok (.getfield 19, 3) := zdcg 4 zdT_dX7_makeCharacters_0 rfl
theorem dX7_makeCharacters_7 : decode cX7_makeCharacters 7 = .ok (.if_icmp .ge 101, 3) := zdcg 5 zdT_dX7_makeCharacters_0 rfl
theorem dX7_makeCharacters_10 : decode cX7_makeCharacters 10 = .ok (.aload_n 0, 1) := zdcg 6 zdT_dX7_makeCharacters_0 rfl
theorem dX7_makeCharacters_11 : decode cX7_makeCharacters 11 = .ok (.getfield 61, 3) := zdcg 7 zdT_dX7_makeCharacters_0 rfl
theorem dX7_makeCharacters_14 : decode cX7_makeCharacters 14 = .ok (.iload_n 1, 1) := zdcg 8 zdT_dX7_makeCharacters_0 rfl
theorem dX7_makeCharacters_15 : decode cX7_makeCharacters 15 = .ok (.aaload, 1) := zdcg 9 zdT_dX7_makeCharacters_0 rfl
theorem dX7_makeCharacters_16 : decode cX7_makeCharacters 16 = .ok (.iconst 0, 1) := zdcg 10 zdT_dX7_makeCharacters_0 rfl
theorem dX7_makeCharacters_17 : decode cX7_makeCharacters 17 = .ok (.aload_n 0, 1) := zdcg 11 zdT_dX7_makeCharacters_0 rfl
theorem dX7_makeCharacters_18 : decode cX7_makeCharacters 18 = .ok (.getfield 64, 3) := zdcg 12 zdT_dX7_makeCharacters_0 rfl
theorem dX7_makeCharacters_21 : decode cX7_makeCharacters 21 = .ok (.iload_n 1, 1) := zdcg 13 zdT_dX7_makeCharacters_0 rfl
theorem dX7_makeCharacters_22 : decode cX7_makeCharacters 22 = .ok (.aaload, 1) := zdcg 14 zdT_dX7_makeCharacters_0 rfl
theorem dX7_makeCharacters_23 : decode cX7_makeCharacters 23 = .ok (.iconst 0, 1) := zdcg 15 zdT_dX7_makeCharacters_0 rfl
theorem dX7_makeCharacters_24 : decode cX7_makeCharacters 24 = .ok (.aload_n 0, 1) := zdcg 16 zdT_dX7_makeCharacters_0 rfl
theorem dX7_makeCharacters_25 : decode cX7_makeCharacters 25 = .ok (.getfield 19, 3) := zdcg 17 zdT_dX7_makeCharacters_0 rfl
theorem dX7_makeCharacters_28 : decode cX7_makeCharacters 28 = .ok (.invokestatic 132, 3) := zdcg 18 zdT_dX7_makeCharacters_0 rfl
theorem dX7_makeCharacters_31 : decode cX7_makeCharacters 31 = .ok (.iconst 0, 1) := zdcg 19 zdT_dX7_makeCharacters_0 rfl
theorem dX7_makeCharacters_32 : decode cX7_makeCharacters 32 = .ok (.istore_n 2, 1) := zdcg 20 zdT_dX7_makeCharacters_0 rfl
theorem dX7_makeCharacters_33 : decode cX7_makeCharacters 33 = .ok (.iload_n 2, 1) := zdcg 21 zdT_dX7_makeCharacters_0 rfl
theorem dX7_makeCharacters_34 : decode cX7_makeCharacters 34 = .ok (.iload_n 1, 1) := zdcg 22 zdT_dX7_makeCharacters_0 rfl
theorem dX7_makeCharacters_35 : decode cX7_makeCharacters 35 = .ok (.if_icmp .ge 67, 3) := zdcg 23 zdT_dX7_makeCharacters_0 rfl
theorem dX7_makeCharacters_38 : decode cX7_makeCharacters 38 = .ok (.aload_n 0, 1) := zdcg 24 zdT_dX7_makeCharacters_0 rfl
theorem zdT_dX7_makeCharacters_39 : zdch cX7_makeCharacters [(39, (.aload_n 0, 1)), (40, (.getfield 61, 3)), (43, (.iload_n 1, 1)), (44, (.aaload, 1)), (45, (.aload_n 0, 1)), (46, (.getfield 64, 3)), (49, (.iload_n 2, 1)), (50, (.aaload, 1)), (51, (.invokevirtual 138, 3)), (54, (.istore_n 3, 1)), (55, (.iconst 0, 1)), (56, (.istore 4, 2)), (58, (.iload 4, 2)), (60, (.aload_n 0, 1)), (61, (.getfield 19, 3)), (64, (.if_icmp .ge 32, 3)), (67, (.aload_n 0, 1)), (68, (.getfield 64, 3)), (71, (.iload_n 1, 1)), (72, (.aaload, 1)), (73, (.iload 4, 2)), (75, (.dup2, 1)), (76, (.iaload, 1)), (77, (.iload_n 3, 1)), (78, (.aload_n 0, 1))] = true := by decide +kernel
theorem dX7_makeCharacters_39 : decode cX7_makeCharacters 39 = .ok (.aload_n 0, 1) := zdcg 0 zdT_dX7_makeCharacters_39 rfl
theorem dX7_makeCharacters_40 : decode cX7_makeCharacters 40 = .ok (.getfield 61, 3) := zdcg 1 zdT_dX7_makeCharacters_39 rfl
theorem dX7_makeCharacters_43 : decode cX7_makeCharacters 43 = .ok (.iload_n 1, 1) := zdcg 2 zdT_dX7_makeCharacters_39 rfl
theorem dX7_makeCharacters_44 : decode cX7_makeCharacters 44 = .ok (.aaload, 1) := zdcg 3 zdT_dX7_makeCharacters_39 rfl
theorem dX7_makeCharacters_45 : decode cX7_makeCharacters 45 = .ok (.aload_n 0, 1) := zdcg 4 zdT_dX7_makeCharacters_39 rfl
theorem dX7_makeCharacters_46 : decode cX7_makeCharacters 46 = .ok (.getfield 64, 3) := zdcg 5 zdT_dX7_makeCharacters_39 rfl
theorem dX7_makeCharacters_49 : decode cX7_makeCharacters 49 = .ok (.iload_n 2, 1) := zdcg 6 zdT_dX7_makeCharacters_39 rfl
theorem dX7_makeCharacters_50 : decode cX7_makeCharacters 50 = .ok (.aaload, 1) := zdcg 7 zdT_dX7_makeCharacters_39 rfl
theorem dX7_makeCharacters_51 : decode cX7_makeCharacters 51 = .ok (.invokevirtual 138, 3) := zdcg 8 zdT_dX7_makeCharacters_39 rfl
theorem dX7_makeCharacters_54 : decode cX7_makeCharacters 54 = .ok (.istore_n 3, 1) := zdcg 9 zdT_dX7_makeCharacters_39 rfl
theorem dX7_makeCharacters_55 : decode cX7_makeCharacters 55 = .ok (.iconst 0, 1) := zdcg 10 zdT_dX7_makeCharacters_39 rfl
theorem dX7_makeCharacters_56 : decode cX7_makeCharacters 56 = .ok (.istore 4, 2) := zdcg 11 zdT_dX7_makeCharacters_39 rfl
theorem dX7_makeCharacters_58 : decode cX7_makeCharacters 58 = .ok (.iload 4, 2) := zdcg 12 zdT_dX7_makeCharacters_39 rfl
theorem dX7_makeCharacters_60 : decode cX7_makeCharacters 60 = .ok (.aload_n 0, 1) := zdcg 13 zdT_dX7_makeCharacters_39 rfl
theorem dX7_makeCharacters_61 : decode cX7_makeCharacters 61 = .ok (.getfield 19, 3) := zdcg 14 zdT_dX7_makeCharacters_39 rfl
theorem dX7_makeCharacters_64 : decode cX7_makeCharacters 64 = .ok (.if_icmp .ge 32, 3) := zdcg 15 zdT_dX7_makeCharacters_39 rfl
theorem dX7_makeCharacters_67 : decode cX7_makeCharacters 67 = .ok (.aload_n 0, 1) := zdcg 16 zdT_dX7_makeCharacters_39 rfl
theorem dX7_makeCharacters_68 : decode cX7_makeCharacters 68 = .ok (.getfield 64, 3) := zdcg 17 zdT_dX7_makeCharacters_39 rfl
theorem dX7_makeCharacters_71 : decode cX7_makeCharacters 71 = .ok (.iload_n 1, 1) := zdcg 18 zdT_dX7_makeCharacters_39 rfl
theorem dX7_makeCharacters_72 : decode cX7_makeCharacters 72 = .ok (.aaload, 1) := zdcg 19 zdT_dX7_makeCharacters_39 rfl
theorem dX7_makeCharacters_73 : decode cX7_makeCharacters 73 = .ok (.iload 4, 2) := zdcg 20 zdT_dX7_makeCharacters_39 rfl
theorem dX7_makeCharacters_75 : decode cX7_makeCharacters 75 = .ok (.dup2, 1) := zdcg 21 zdT_dX7_makeCharacters_39 rfl
theorem dX7_makeCharacters_76 : decode cX7_makeCharacters 76 = .ok (.iaload, 1) := zdcg 22 zdT_dX7_makeCharacters_39 rfl
theorem dX7_makeCharacters_77 : decode cX7_makeCharacters 77 = .ok (.iload_n 3, 1) := zdcg 23 zdT_dX7_makeCharacters_39 rfl
theorem dX7_makeCharacters_78 : decode cX7_makeCharacters 78 = .ok (.aload_n 0, 1) := zdcg 24 zdT_dX7_makeCharacters_39 rfl
theorem zdT_dX7_makeCharacters_79 : zdch cX7_makeCharacters [(79, (.getfield 64, 3)), (82, (.iload_n 2, 1)), (83, (.aaload, 1)), (84, (.iload 4, 2)), (86, (.iaload, 1)), (87, (.imul, 1)), (88, (.isub, 1)), (89, (.iastore, 1)), (90, (.iinc 4 1, 3)), (93, (.goto (-35), 3)), (96, (.iinc 2 1, 3)), (99, (.goto (-66), 3)), (102, (.iinc 1 1, 3)), (105, (.goto (-103), 3)), (108, (.return_, 1))] = true := by decide +kernel
theorem dX7_makeCharacters_79 : decode cX7_makeCharacters 79 = .ok (.getfield 64, 3) := zdcg 0 zdT_dX7_makeCharacters_79 rfl
theorem dX7_makeCharacters_82 : decode cX7_makeCharacters 82 = .ok (.iload_n 2, 1) := zdcg 1 zdT_dX7_makeCharacters_79 rfl
theorem dX7_makeCharacters_83 : decode cX7_makeCharacters 83 = .ok (.aaload, 1) := zdcg 2 zdT_dX7_makeCharacters_79 rfl
theorem dX7_makeCharacters_84 : decode cX7_makeCharacters 84 = .ok (.iload 4, 2) := zdcg 3 zdT_dX7_makeCharacters_79 rfl
theorem dX7_makeCharacters_86 : decode cX7_makeCharacters 86 = .ok (.iaload, 1) := zdcg 4 zdT_dX7_makeCharacters_79 rfl
theorem dX7_makeCharacters_87 : decode cX7_makeCharacters 87 = .ok (.imul, 1) := zdcg 5 zdT_dX7_makeCharacters_79 rfl
theorem dX7_makeCharacters_88 : decode cX7_makeCharacters 88 = .ok (.isub, 1) := zdcg 6 zdT_dX7_makeCharacters_79 rfl
theorem dX7_makeCharacters_89 : decode cX7_makeCharacters 89 = .ok (.iastore, 1) := zdcg 7 zdT_dX7_makeCharacters_79 rfl
theorem dX7_makeCharacters_90 : decode cX7_makeCharacters 90 = .ok (.iinc 4 1, 3) := zdcg 8 zdT_dX7_makeCharacters_79 rfl
theorem dX7_makeCharacters_93 : decode cX7_makeCharacters 93 = .ok (.goto (-35), 3) := zdcg 9 zdT_dX7_makeCharacters_79 rfl
theorem dX7_makeCharacters_96 : decode cX7_makeCharacters 96 = .ok (.iinc 2 1, 3) := zdcg 10 zdT_dX7_makeCharacters_79 rfl
theorem dX7_makeCharacters_99 : decode cX7_makeCharacters 99 = .ok (.goto (-66), 3) := zdcg 11 zdT_dX7_makeCharacters_79 rfl
theorem dX7_makeCharacters_102 : decode cX7_makeCharacters 102 = .ok (.iinc 1 1, 3) := zdcg 12 zdT_dX7_makeCharacters_79 rfl
theorem dX7_makeCharacters_105 : decode cX7_makeCharacters 105 = .ok (.goto (-103), 3) := zdcg 13 zdT_dX7_makeCharacters_79 rfl
theorem dX7_makeCharacters_108 : decode cX7_makeCharacters 108 = .ok (.return_, 1) := zdcg 14 zdT_dX7_makeCharacters_79 rfl
theorem zdT_dX7_timesIn_0 : zdch cX7_timesIn [(0, (.iconst 0, 1)), (1, (.istore_n 3, 1)), (2, (.iconst 0, 1)), (3, (.istore 4, 2)), (5, (.iload 4, 2)), (7, (.aload_n 0, 1)), (8, (.getfield 19, 3)), (11, (.if_icmp .ge 29, 3)), (14, (.iload_n 3, 1)), (15, (.aload_n 0, 1)), (16, (.getfield 41, 3)), (19, (.iload 4, 2)), (21, (.iaload, 1)), (22, (.aload_n 1, 1)), (23, (.iload 4, 2)), (25, (.iaload, 1)), (26, (.imul, 1)), (27, (.aload_n 2, 1)), (28, (.iload 4, 2)), (30, (.iaload, 1)), (31, (.imul, 1)), (32, (.iadd, 1)), (33, (.istore_n 3, 1)), (34, (.iinc 4 1, 3)), (37, (.goto (-32), 3))] = true := by decide +kernel
theorem dX7_timesIn_0 : decode cX7_timesIn 0 = .ok (.iconst 0, 1) := zdcg 0 zdT_dX7_timesIn_0 rfl
theorem dX7_timesIn_1 : decode cX7_timesIn 1 = .ok (.istore_n 3, 1) := zdcg 1 zdT_dX7_timesIn_0 rfl
theorem dX7_timesIn_2 : decode cX7_timesIn 2 = .ok (.iconst 0, 1) := zdcg 2 zdT_dX7_timesIn_0 rfl
theorem dX7_timesIn_3 : decode cX7_timesIn 3 = .ok (.istore 4, 2) := zdcg 3 zdT_dX7_timesIn_0 rfl
theorem dX7_timesIn_5 : decode cX7_timesIn 5 = .ok (.iload 4, 2) := zdcg 4 zdT_dX7_timesIn_0 rfl
theorem dX7_timesIn_7 : decode cX7_timesIn 7 = .ok (.aload_n 0, 1) := zdcg 5 zdT_dX7_timesIn_0 rfl
theorem dX7_timesIn_8 : decode cX7_timesIn 8 = .ok (.getfield 19, 3) := zdcg 6 zdT_dX7_timesIn_0 rfl
theorem dX7_timesIn_11 : decode cX7_timesIn 11 = .ok (.if_icmp .ge 29, 3) := zdcg 7 zdT_dX7_timesIn_0 rfl
theorem dX7_timesIn_14 : decode cX7_timesIn 14 = .ok (.iload_n 3, 1) := zdcg 8 zdT_dX7_timesIn_0 rfl
theorem dX7_timesIn_15 : decode cX7_timesIn 15 = .ok (.aload_n 0, 1) := zdcg 9 zdT_dX7_timesIn_0 rfl
theorem dX7_timesIn_16 : decode cX7_timesIn 16 = .ok (.getfield 41, 3) := zdcg 10 zdT_dX7_timesIn_0 rfl
theorem dX7_timesIn_19 : decode cX7_timesIn 19 = .ok (.iload 4, 2) := zdcg 11 zdT_dX7_timesIn_0 rfl
theorem dX7_timesIn_21 : decode cX7_timesIn 21 = .ok (.iaload, 1) := zdcg 12 zdT_dX7_timesIn_0 rfl
theorem dX7_timesIn_22 : decode cX7_timesIn 22 = .ok (.aload_n 1, 1) := zdcg 13 zdT_dX7_timesIn_0 rfl
theorem dX7_timesIn_23 : decode cX7_timesIn 23 = .ok (.iload 4, 2) := zdcg 14 zdT_dX7_timesIn_0 rfl
theorem dX7_timesIn_25 : decode cX7_timesIn 25 = .ok (.iaload, 1) := zdcg 15 zdT_dX7_timesIn_0 rfl
theorem dX7_timesIn_26 : decode cX7_timesIn 26 = .ok (.imul, 1) := zdcg 16 zdT_dX7_timesIn_0 rfl
theorem dX7_timesIn_27 : decode cX7_timesIn 27 = .ok (.aload_n 2, 1) := zdcg 17 zdT_dX7_timesIn_0 rfl
theorem dX7_timesIn_28 : decode cX7_timesIn 28 = .ok (.iload 4, 2) := zdcg 18 zdT_dX7_timesIn_0 rfl
theorem dX7_timesIn_30 : decode cX7_timesIn 30 = .ok (.iaload, 1) := zdcg 19 zdT_dX7_timesIn_0 rfl
theorem dX7_timesIn_31 : decode cX7_timesIn 31 = .ok (.imul, 1) := zdcg 20 zdT_dX7_timesIn_0 rfl
theorem dX7_timesIn_32 : decode cX7_timesIn 32 = .ok (.iadd, 1) := zdcg 21 zdT_dX7_timesIn_0 rfl
theorem dX7_timesIn_33 : decode cX7_timesIn 33 = .ok (.istore_n 3, 1) := zdcg 22 zdT_dX7_timesIn_0 rfl
theorem dX7_timesIn_34 : decode cX7_timesIn 34 = .ok (.iinc 4 1, 3) := zdcg 23 zdT_dX7_timesIn_0 rfl
theorem dX7_timesIn_37 : decode cX7_timesIn 37 = .ok (.goto (-32), 3) := zdcg 24 zdT_dX7_timesIn_0 rfl
theorem zdT_dX7_timesIn_40 : zdch cX7_timesIn [(40, (.aload_n 0, 1)), (41, (.getfield 35, 3)), (44, (.ifCond .le 12, 3)), (47, (.iload_n 3, 1)), (48, (.aload_n 0, 1)), (49, (.getfield 35, 3)), (52, (.idiv, 1)), (53, (.goto 4, 3)), (56, (.iconst 0, 1)), (57, (.ireturn, 1))] = true := by decide +kernel
theorem dX7_timesIn_40 : decode cX7_timesIn 40 = .ok (.aload_n 0, 1) := zdcg 0 zdT_dX7_timesIn_40 rfl
theorem dX7_timesIn_41 : decode cX7_timesIn 41 = .ok (.getfield 35, 3) := zdcg 1 zdT_dX7_timesIn_40 rfl
theorem dX7_timesIn_44 : decode cX7_timesIn 44 = .ok (.ifCond .le 12, 3) := zdcg 2 zdT_dX7_timesIn_40 rfl
theorem dX7_timesIn_47 : decode cX7_timesIn 47 = .ok (.iload_n 3, 1) := zdcg 3 zdT_dX7_timesIn_40 rfl
theorem dX7_timesIn_48 : decode cX7_timesIn 48 = .ok (.aload_n 0, 1) := zdcg 4 zdT_dX7_timesIn_40 rfl
theorem dX7_timesIn_49 : decode cX7_timesIn 49 = .ok (.getfield 35, 3) := zdcg 5 zdT_dX7_timesIn_40 rfl
theorem dX7_timesIn_52 : decode cX7_timesIn 52 = .ok (.idiv, 1) := zdcg 6 zdT_dX7_timesIn_40 rfl
theorem dX7_timesIn_53 : decode cX7_timesIn 53 = .ok (.goto 4, 3) := zdcg 7 zdT_dX7_timesIn_40 rfl
theorem dX7_timesIn_56 : decode cX7_timesIn 56 = .ok (.iconst 0, 1) := zdcg 8 zdT_dX7_timesIn_40 rfl
theorem dX7_timesIn_57 : decode cX7_timesIn 57 = .ok (.ireturn, 1) := zdcg 9 zdT_dX7_timesIn_40 rfl
theorem zdT_dX7_countCodes_0 : zdch cX7_countCodes [(0, (.iconst 1, 1)), (1, (.istore_n 1, 1)), (2, (.iconst 0, 1)), (3, (.istore_n 2, 1)), (4, (.iload_n 2, 1)), (5, (.aload_n 0, 1)), (6, (.getfield 19, 3)), (9, (.if_icmp .ge 23, 3)), (12, (.iload_n 1, 1)), (13, (.aload_n 0, 1)), (14, (.getfield 24, 3)), (17, (.iload_n 2, 1)), (18, (.aaload, 1)), (19, (.invokevirtual 142, 3)), (22, (.invokestatic 145, 3)), (25, (.istore_n 1, 1)), (26, (.iinc 2 1, 3)), (29, (.goto (-25), 3)), (32, (.iload_n 1, 1)), (33, (.ireturn, 1))] = true := by decide +kernel
theorem dX7_countCodes_0 : decode cX7_countCodes 0 = .ok (.iconst 1, 1) := zdcg 0 zdT_dX7_countCodes_0 rfl
theorem dX7_countCodes_1 : decode cX7_countCodes 1 = .ok (.istore_n 1, 1) := zdcg 1 zdT_dX7_countCodes_0 rfl
theorem dX7_countCodes_2 : decode cX7_countCodes 2 = .ok (.iconst 0, 1) := zdcg 2 zdT_dX7_countCodes_0 rfl
theorem dX7_countCodes_3 : decode cX7_countCodes 3 = .ok (.istore_n 2, 1) := zdcg 3 zdT_dX7_countCodes_0 rfl
theorem dX7_countCodes_4 : decode cX7_countCodes 4 = .ok (.iload_n 2, 1) := zdcg 4 zdT_dX7_countCodes_0 rfl
theorem dX7_countCodes_5 : decode cX7_countCodes 5 = .ok (.aload_n 0, 1) := zdcg 5 zdT_dX7_countCodes_0 rfl
theorem dX7_countCodes_6 : decode cX7_countCodes 6 = .ok (.getfield 19, 3) := zdcg 6 zdT_dX7_countCodes_0 rfl
theorem dX7_countCodes_9 : decode cX7_countCodes 9 = .ok (.if_icmp .ge 23, 3) := zdcg 7 zdT_dX7_countCodes_0 rfl
theorem dX7_countCodes_12 : decode cX7_countCodes 12 = .ok (.iload_n 1, 1) := zdcg 8 zdT_dX7_countCodes_0 rfl
theorem dX7_countCodes_13 : decode cX7_countCodes 13 = .ok (.aload_n 0, 1) := zdcg 9 zdT_dX7_countCodes_0 rfl
theorem dX7_countCodes_14 : decode cX7_countCodes 14 = .ok (.getfield 24, 3) := zdcg 10 zdT_dX7_countCodes_0 rfl
theorem dX7_countCodes_17 : decode cX7_countCodes 17 = .ok (.iload_n 2, 1) := zdcg 11 zdT_dX7_countCodes_0 rfl
theorem dX7_countCodes_18 : decode cX7_countCodes 18 = .ok (.aaload, 1) := zdcg 12 zdT_dX7_countCodes_0 rfl
theorem dX7_countCodes_19 : decode cX7_countCodes 19 = .ok (.invokevirtual 142, 3) := zdcg 13 zdT_dX7_countCodes_0 rfl
theorem dX7_countCodes_22 : decode cX7_countCodes 22 = .ok (.invokestatic 145, 3) := zdcg 14 zdT_dX7_countCodes_0 rfl
theorem dX7_countCodes_25 : decode cX7_countCodes 25 = .ok (.istore_n 1, 1) := zdcg 15 zdT_dX7_countCodes_0 rfl
theorem dX7_countCodes_26 : decode cX7_countCodes 26 = .ok (.iinc 2 1, 3) := zdcg 16 zdT_dX7_countCodes_0 rfl
theorem dX7_countCodes_29 : decode cX7_countCodes 29 = .ok (.goto (-25), 3) := zdcg 17 zdT_dX7_countCodes_0 rfl
theorem dX7_countCodes_32 : decode cX7_countCodes 32 = .ok (.iload_n 1, 1) := zdcg 18 zdT_dX7_countCodes_0 rfl
theorem dX7_countCodes_33 : decode cX7_countCodes 33 = .ok (.ireturn, 1) := zdcg 19 zdT_dX7_countCodes_0 rfl
theorem zdT_dX8_init_0 : zdch cX8_init [(0, (.aload_n 0, 1)), (1, (.invokespecial 3, 3)), (4, (.aload_n 0, 1)), (5, (.bipush 7, 2)), (7, (.anewarray 9, 3)), (10, (.putfield 11, 3)), (13, (.aload_n 0, 1)), (14, (.bipush 56, 2)), (16, (.anewarray 15, 3)), (19, (.putfield 17, 3)), (22, (.aload_n 0, 1)), (23, (.bipush 6, 2)), (25, (.bipush 11, 2)), (27, (.multianewarray 21 2, 4)), (31, (.putfield 23, 3)), (34, (.aload_n 0, 1)), (35, (.bipush 11, 2)), (37, (.newarray .long, 2)), (39, (.putfield 26, 3)), (42, (.aload_n 0, 1)), (43, (.new 30, 3)), (46, (.dup, 1)), (47, (.invokespecial 32, 3)), (50, (.putfield 33, 3)), (53, (.aload_n 0, 1))] = true := by decide +kernel
theorem dX8_init_0 : decode cX8_init 0 = .ok (.aload_n 0, 1) := zdcg 0 zdT_dX8_init_0 rfl
theorem dX8_init_1 : decode cX8_init 1 = .ok (.invokespecial 3, 3) := zdcg 1 zdT_dX8_init_0 rfl
theorem dX8_init_4 : decode cX8_init 4 = .ok (.aload_n 0, 1) := zdcg 2 zdT_dX8_init_0 rfl
theorem dX8_init_5 : decode cX8_init 5 = .ok (.bipush 7, 2) := zdcg 3 zdT_dX8_init_0 rfl
theorem dX8_init_7 : decode cX8_init 7 = .ok (.anewarray 9, 3) := zdcg 4 zdT_dX8_init_0 rfl
theorem dX8_init_10 : decode cX8_init 10 = .ok (.putfield 11, 3) := zdcg 5 zdT_dX8_init_0 rfl
theorem dX8_init_13 : decode cX8_init 13 = .ok (.aload_n 0, 1) := zdcg 6 zdT_dX8_init_0 rfl
theorem dX8_init_14 : decode cX8_init 14 = .ok (.bipush 56, 2) := zdcg 7 zdT_dX8_init_0 rfl
theorem dX8_init_16 : decode cX8_init 16 = .ok (.anewarray 15, 3) := zdcg 8 zdT_dX8_init_0 rfl
theorem dX8_init_19 : decode cX8_init 19 = .ok (.putfield 17, 3) := zdcg 9 zdT_dX8_init_0 rfl
theorem dX8_init_22 : decode cX8_init 22 = .ok (.aload_n 0, 1) := zdcg 10 zdT_dX8_init_0 rfl
theorem dX8_init_23 : decode cX8_init 23 = .ok (.bipush 6, 2) := zdcg 11 zdT_dX8_init_0 rfl
theorem dX8_init_25 : decode cX8_init 25 = .ok (.bipush 11, 2) := zdcg 12 zdT_dX8_init_0 rfl
theorem dX8_init_27 : decode cX8_init 27 = .ok (.multianewarray 21 2, 4) := zdcg 13 zdT_dX8_init_0 rfl
theorem dX8_init_31 : decode cX8_init 31 = .ok (.putfield 23, 3) := zdcg 14 zdT_dX8_init_0 rfl
theorem dX8_init_34 : decode cX8_init 34 = .ok (.aload_n 0, 1) := zdcg 15 zdT_dX8_init_0 rfl
theorem dX8_init_35 : decode cX8_init 35 = .ok (.bipush 11, 2) := zdcg 16 zdT_dX8_init_0 rfl
theorem dX8_init_37 : decode cX8_init 37 = .ok (.newarray .long, 2) := zdcg 17 zdT_dX8_init_0 rfl
theorem dX8_init_39 : decode cX8_init 39 = .ok (.putfield 26, 3) := zdcg 18 zdT_dX8_init_0 rfl
theorem dX8_init_42 : decode cX8_init 42 = .ok (.aload_n 0, 1) := zdcg 19 zdT_dX8_init_0 rfl
theorem dX8_init_43 : decode cX8_init 43 = .ok (.new 30, 3) := zdcg 20 zdT_dX8_init_0 rfl
theorem dX8_init_46 : decode cX8_init 46 = .ok (.dup, 1) := zdcg 21 zdT_dX8_init_0 rfl
theorem dX8_init_47 : decode cX8_init 47 = .ok (.invokespecial 32, 3) := zdcg 22 zdT_dX8_init_0 rfl
theorem dX8_init_50 : decode cX8_init 50 = .ok (.putfield 33, 3) := zdcg 23 zdT_dX8_init_0 rfl
theorem dX8_init_53 : decode cX8_init 53 = .ok (.aload_n 0, 1) := zdcg 24 zdT_dX8_init_0 rfl
theorem zdT_dX8_init_54 : zdch cX8_init [(54, (.new 9, 3)), (57, (.dup, 1)), (58, (.iconst 3, 1)), (59, (.invokespecial 37, 3)), (62, (.putfield 40, 3)), (65, (.aload_n 0, 1)), (66, (.new 15, 3)), (69, (.dup, 1)), (70, (.aload_n 0, 1)), (71, (.getfield 40, 3)), (74, (.iconst 2, 1)), (75, (.invokespecial 44, 3)), (78, (.putfield 47, 3)), (81, (.aload_n 0, 1)), (82, (.getfield 11, 3)), (85, (.iconst 3, 1)), (86, (.aload_n 0, 1)), (87, (.getfield 40, 3)), (90, (.aastore, 1)), (91, (.aload_n 0, 1)), (92, (.getfield 17, 3)), (95, (.iconst 3, 1)), (96, (.iconst 2, 1)), (97, (.invokestatic 51, 3)), (100, (.aload_n 0, 1))] = true := by decide +kernel
theorem dX8_init_54 : decode cX8_init 54 = .ok (.new 9, 3) := zdcg 0 zdT_dX8_init_54 rfl
theorem dX8_init_57 : decode cX8_init 57 = .ok (.dup, 1) := zdcg 1 zdT_dX8_init_54 rfl
theorem dX8_init_58 : decode cX8_init 58 = .ok (.iconst 3, 1) := zdcg 2 zdT_dX8_init_54 rfl
theorem dX8_init_59 : decode cX8_init 59 = .ok (.invokespecial 37, 3) := zdcg 3 zdT_dX8_init_54 rfl
theorem dX8_init_62 : decode cX8_init 62 = .ok (.putfield 40, 3) := zdcg 4 zdT_dX8_init_54 rfl
theorem dX8_init_65 : decode cX8_init 65 = .ok (.aload_n 0, 1) := zdcg 5 zdT_dX8_init_54 rfl
theorem dX8_init_66 : decode cX8_init 66 = .ok (.new 15, 3) := zdcg 6 zdT_dX8_init_54 rfl
theorem dX8_init_69 : decode cX8_init 69 = .ok (.dup, 1) := zdcg 7 zdT_dX8_init_54 rfl
theorem dX8_init_70 : decode cX8_init 70 = .ok (.aload_n 0, 1) := zdcg 8 zdT_dX8_init_54 rfl
theorem dX8_init_71 : decode cX8_init 71 = .ok (.getfield 40, 3) := zdcg 9 zdT_dX8_init_54 rfl
theorem dX8_init_74 : decode cX8_init 74 = .ok (.iconst 2, 1) := zdcg 10 zdT_dX8_init_54 rfl
theorem dX8_init_75 : decode cX8_init 75 = .ok (.invokespecial 44, 3) := zdcg 11 zdT_dX8_init_54 rfl
theorem dX8_init_78 : decode cX8_init 78 = .ok (.putfield 47, 3) := zdcg 12 zdT_dX8_init_54 rfl
theorem dX8_init_81 : decode cX8_init 81 = .ok (.aload_n 0, 1) := zdcg 13 zdT_dX8_init_54 rfl
theorem dX8_init_82 : decode cX8_init 82 = .ok (.getfield 11, 3) := zdcg 14 zdT_dX8_init_54 rfl
theorem dX8_init_85 : decode cX8_init 85 = .ok (.iconst 3, 1) := zdcg 15 zdT_dX8_init_54 rfl
theorem dX8_init_86 : decode cX8_init 86 = .ok (.aload_n 0, 1) := zdcg 16 zdT_dX8_init_54 rfl
theorem dX8_init_87 : decode cX8_init 87 = .ok (.getfield 40, 3) := zdcg 17 zdT_dX8_init_54 rfl
theorem dX8_init_90 : decode cX8_init 90 = .ok (.aastore, 1) := zdcg 18 zdT_dX8_init_54 rfl
theorem dX8_init_91 : decode cX8_init 91 = .ok (.aload_n 0, 1) := zdcg 19 zdT_dX8_init_54 rfl
theorem dX8_init_92 : decode cX8_init 92 = .ok (.getfield 17, 3) := zdcg 20 zdT_dX8_init_54 rfl
theorem dX8_init_95 : decode cX8_init 95 = .ok (.iconst 3, 1) := zdcg 21 zdT_dX8_init_54 rfl
theorem dX8_init_96 : decode cX8_init 96 = .ok (.iconst 2, 1) := zdcg 22 zdT_dX8_init_54 rfl
theorem dX8_init_97 : decode cX8_init 97 = .ok (.invokestatic 51, 3) := zdcg 23 zdT_dX8_init_54 rfl
theorem dX8_init_100 : decode cX8_init 100 = .ok (.aload_n 0, 1) := zdcg 24 zdT_dX8_init_54 rfl
theorem zdT_dX8_init_101 : zdch cX8_init [(101, (.getfield 47, 3)), (104, (.aastore, 1)), (105, (.aload_n 0, 1)), (106, (.new 55, 3)), (109, (.dup, 1)), (110, (.aload_n 0, 1)), (111, (.getfield 33, 3)), (114, (.aload_n 0, 1)), (115, (.getfield 23, 3)), (118, (.aload_n 0, 1)), (119, (.getfield 40, 3)), (122, (.aload_n 0, 1)), (123, (.getfield 47, 3)), (126, (.invokespecial 57, 3)), (129, (.putfield 60, 3)), (132, (.return_, 1))] = true := by decide +kernel
theorem dX8_init_101 : decode cX8_init 101 = .ok (.getfield 47, 3) := zdcg 0 zdT_dX8_init_101 rfl
theorem dX8_init_104 : decode cX8_init 104 = .ok (.aastore, 1) := zdcg 1 zdT_dX8_init_101 rfl
theorem dX8_init_105 : decode cX8_init 105 = .ok (.aload_n 0, 1) := zdcg 2 zdT_dX8_init_101 rfl
theorem dX8_init_106 : decode cX8_init 106 = .ok (.new 55, 3) := zdcg 3 zdT_dX8_init_101 rfl
theorem dX8_init_109 : decode cX8_init 109 = .ok (.dup, 1) := zdcg 4 zdT_dX8_init_101 rfl
theorem dX8_init_110 : decode cX8_init 110 = .ok (.aload_n 0, 1) := zdcg 5 zdT_dX8_init_101 rfl
theorem dX8_init_111 : decode cX8_init 111 = .ok (.getfield 33, 3) := zdcg 6 zdT_dX8_init_101 rfl
theorem dX8_init_114 : decode cX8_init 114 = .ok (.aload_n 0, 1) := zdcg 7 zdT_dX8_init_101 rfl
theorem dX8_init_115 : decode cX8_init 115 = .ok (.getfield 23, 3) := zdcg 8 zdT_dX8_init_101 rfl
theorem dX8_init_118 : decode cX8_init 118 = .ok (.aload_n 0, 1) := zdcg 9 zdT_dX8_init_101 rfl
theorem dX8_init_119 : decode cX8_init 119 = .ok (.getfield 40, 3) := zdcg 10 zdT_dX8_init_101 rfl
theorem dX8_init_122 : decode cX8_init 122 = .ok (.aload_n 0, 1) := zdcg 11 zdT_dX8_init_101 rfl
theorem dX8_init_123 : decode cX8_init 123 = .ok (.getfield 47, 3) := zdcg 12 zdT_dX8_init_101 rfl
theorem dX8_init_126 : decode cX8_init 126 = .ok (.invokespecial 57, 3) := zdcg 13 zdT_dX8_init_101 rfl
theorem dX8_init_129 : decode cX8_init 129 = .ok (.putfield 60, 3) := zdcg 14 zdT_dX8_init_101 rfl
theorem dX8_init_132 : decode cX8_init 132 = .ok (.return_, 1) := zdcg 15 zdT_dX8_init_101 rfl
theorem zdT_dX8_group_0 : zdch cX8_group [(0, (.iload_n 1, 1)), (1, (.iconst 1, 1)), (2, (.if_icmp .lt 30, 3)), (5, (.iload_n 1, 1)), (6, (.bipush 6, 2)), (8, (.if_icmp .gt 24, 3)), (11, (.iload_n 2, 1)), (12, (.iconst 2, 1)), (13, (.if_icmp .eq 21, 3)), (16, (.iload_n 2, 1)), (17, (.iconst 3, 1))] = true := by decide +kernel
theorem dX8_group_0 : decode cX8_group 0 = .ok (.iload_n 1, 1) := zdcg 0 zdT_dX8_group_0 rfl
theorem dX8_group_1 : decode cX8_group 1 = .ok (.iconst 1, 1) := zdcg 1 zdT_dX8_group_0 rfl
theorem dX8_group_2 : decode cX8_group 2 = .ok (.if_icmp .lt 30, 3) := zdcg 2 zdT_dX8_group_0 rfl
theorem dX8_group_5 : decode cX8_group 5 = .ok (.iload_n 1, 1) := zdcg 3 zdT_dX8_group_0 rfl
theorem dX8_group_6 : decode cX8_group 6 = .ok (.bipush 6, 2) := zdcg 4 zdT_dX8_group_0 rfl
theorem dX8_group_8 : decode cX8_group 8 = .ok (.if_icmp .gt 24, 3) := zdcg 5 zdT_dX8_group_0 rfl
theorem dX8_group_11 : decode cX8_group 11 = .ok (.iload_n 2, 1) := zdcg 6 zdT_dX8_group_0 rfl
theorem dX8_group_12 : decode cX8_group 12 = .ok (.iconst 2, 1) := zdcg 7 zdT_dX8_group_0 rfl
theorem dX8_group_13 : decode cX8_group 13 = .ok (.if_icmp .eq 21, 3) := zdcg 8 zdT_dX8_group_0 rfl
theorem dX8_group_16 : decode cX8_group 16 = .ok (.iload_n 2, 1) := zdcg 9 zdT_dX8_group_0 rfl
theorem dX8_group_17 : decode cX8_group 17 = .ok (.iconst 3, 1) := zdcg 10 zdT_dX8_group_0 rfl
