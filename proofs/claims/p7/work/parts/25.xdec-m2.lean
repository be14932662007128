section
/-! instructions, by program -/
theorem zdT_dX9_partBy_0 : zdch cX9_partBy [(0, (.iload_n 1, 1)), (1, (.istore_n 2, 1)), (2, (.bipush 11, 2)), (4, (.istore_n 3, 1)), (5, (.iload_n 3, 1)), (6, (.ifCond .lt 33, 3)), (9, (.iload_n 0, 1)), (10, (.iload_n 3, 1)), (11, (.ishr, 1)), (12, (.iconst 1, 1)), (13, (.iand, 1)), (14, (.ifCond .ne 6, 3)), (17, (.goto 16, 3)), (20, (.iload_n 2, 1)), (21, (.ifCond .ne 9, 3)), (24, (.iload_n 3, 1)), (25, (.iconst 5, 1)), (26, (.iload_n 1, 1)), (27, (.isub, 1)), (28, (.isub, 1)), (29, (.ireturn, 1)), (30, (.iinc 2 (-1), 3)), (33, (.iinc 3 (-1), 3)), (36, (.goto (-31), 3)), (39, (.iconst 0, 1))] = true := by decide +kernel
theorem dX9_partBy_0 : decode cX9_partBy 0 = .ok (.iload_n 1, 1) := zdcg 0 zdT_dX9_partBy_0 rfl
theorem dX9_partBy_1 : decode cX9_partBy 1 = .ok (.istore_n 2, 1) := zdcg 1 zdT_dX9_partBy_0 rfl
theorem dX9_partBy_2 : decode cX9_partBy 2 = .ok (.bipush 11, 2) := zdcg 2 zdT_dX9_partBy_0 rfl
theorem dX9_partBy_4 : decode cX9_partBy 4 = .ok (.istore_n 3, 1) := zdcg 3 zdT_dX9_partBy_0 rfl
theorem dX9_partBy_5 : decode cX9_partBy 5 = .ok (.iload_n 3, 1) := zdcg 4 zdT_dX9_partBy_0 rfl
theorem dX9_partBy_6 : decode cX9_partBy 6 = .ok (.ifCond .lt 33, 3) := zdcg 5 zdT_dX9_partBy_0 rfl
theorem dX9_partBy_9 : decode cX9_partBy 9 = .ok (.iload_n 0, 1) := zdcg 6 zdT_dX9_partBy_0 rfl
theorem dX9_partBy_10 : decode cX9_partBy 10 = .ok (.iload_n 3, 1) := zdcg 7 zdT_dX9_partBy_0 rfl
theorem dX9_partBy_11 : decode cX9_partBy 11 = .ok (.ishr, 1) := zdcg 8 zdT_dX9_partBy_0 rfl
theorem dX9_partBy_12 : decode cX9_partBy 12 = .ok (.iconst 1, 1) := zdcg 9 zdT_dX9_partBy_0 rfl
theorem dX9_partBy_13 : decode cX9_partBy 13 = .ok (.iand, 1) := zdcg 10 zdT_dX9_partBy_0 rfl
theorem dX9_partBy_14 : decode cX9_partBy 14 = .ok (.ifCond .ne 6, 3) := zdcg 11 zdT_dX9_partBy_0 rfl
theorem dX9_partBy_17 : decode cX9_partBy 17 = .ok (.goto 16, 3) := zdcg 12 zdT_dX9_partBy_0 rfl
theorem dX9_partBy_20 : decode cX9_partBy 20 = .ok (.iload_n 2, 1) := zdcg 13 zdT_dX9_partBy_0 rfl
theorem dX9_partBy_21 : decode cX9_partBy 21 = .ok (.ifCond .ne 9, 3) := zdcg 14 zdT_dX9_partBy_0 rfl
theorem dX9_partBy_24 : decode cX9_partBy 24 = .ok (.iload_n 3, 1) := zdcg 15 zdT_dX9_partBy_0 rfl
theorem dX9_partBy_25 : decode cX9_partBy 25 = .ok (.iconst 5, 1) := zdcg 16 zdT_dX9_partBy_0 rfl
theorem dX9_partBy_26 : decode cX9_partBy 26 = .ok (.iload_n 1, 1) := zdcg 17 zdT_dX9_partBy_0 rfl
theorem dX9_partBy_27 : decode cX9_partBy 27 = .ok (.isub, 1) := zdcg 18 zdT_dX9_partBy_0 rfl
theorem dX9_partBy_28 : decode cX9_partBy 28 = .ok (.isub, 1) := zdcg 19 zdT_dX9_partBy_0 rfl
theorem dX9_partBy_29 : decode cX9_partBy 29 = .ok (.ireturn, 1) := zdcg 20 zdT_dX9_partBy_0 rfl
theorem dX9_partBy_30 : decode cX9_partBy 30 = .ok (.iinc 2 (-1), 3) := zdcg 21 zdT_dX9_partBy_0 rfl
theorem dX9_partBy_33 : decode cX9_partBy 33 = .ok (.iinc 3 (-1), 3) := zdcg 22 zdT_dX9_partBy_0 rfl
theorem dX9_partBy_36 : decode cX9_partBy 36 = .ok (.goto (-31), 3) := zdcg 23 zdT_dX9_partBy_0 rfl
theorem dX9_partBy_39 : decode cX9_partBy 39 = .ok (.iconst 0, 1) := zdcg 24 zdT_dX9_partBy_0 rfl
theorem zdT_dX9_partBy_40 : zdch cX9_partBy [(40, (.ireturn, 1))] = true := by decide +kernel
theorem dX9_partBy_40 : decode cX9_partBy 40 = .ok (.ireturn, 1) := zdcg 0 zdT_dX9_partBy_40 rfl
theorem zdT_dX9_isPart_0 : zdch cX9_isPart [(0, (.iload_n 1, 1)), (1, (.i2l, 1)), (2, (.lconst 0, 1)), (3, (.aload_n 0, 1)), (4, (.getfield 153, 3)), (7, (.iconst 1, 1)), (8, (.isub, 1)), (9, (.i2l, 1)), (10, (.invokestatic 283, 3)), (13, (.ireturn, 1))] = true := by decide +kernel
theorem dX9_isPart_0 : decode cX9_isPart 0 = .ok (.iload_n 1, 1) := zdcg 0 zdT_dX9_isPart_0 rfl
theorem dX9_isPart_1 : decode cX9_isPart 1 = .ok (.i2l, 1) := zdcg 1 zdT_dX9_isPart_0 rfl
theorem dX9_isPart_2 : decode cX9_isPart 2 = .ok (.lconst 0, 1) := zdcg 2 zdT_dX9_isPart_0 rfl
theorem dX9_isPart_3 : decode cX9_isPart 3 = .ok (.aload_n 0, 1) := zdcg 3 zdT_dX9_isPart_0 rfl
theorem dX9_isPart_4 : decode cX9_isPart 4 = .ok (.getfield 153, 3) := zdcg 4 zdT_dX9_isPart_0 rfl
theorem dX9_isPart_7 : decode cX9_isPart 7 = .ok (.iconst 1, 1) := zdcg 5 zdT_dX9_isPart_0 rfl
theorem dX9_isPart_8 : decode cX9_isPart 8 = .ok (.isub, 1) := zdcg 6 zdT_dX9_isPart_0 rfl
theorem dX9_isPart_9 : decode cX9_isPart 9 = .ok (.i2l, 1) := zdcg 7 zdT_dX9_isPart_0 rfl
theorem dX9_isPart_10 : decode cX9_isPart 10 = .ok (.invokestatic 283, 3) := zdcg 8 zdT_dX9_isPart_0 rfl
theorem dX9_isPart_13 : decode cX9_isPart 13 = .ok (.ireturn, 1) := zdcg 9 zdT_dX9_isPart_0 rfl
theorem zdT_dX9_partition_0 : zdch cX9_partition [(0, (.aload_n 0, 1)), (1, (.iload_n 1, 1)), (2, (.invokevirtual 287, 3)), (5, (.ifCond .eq 8, 3)), (8, (.iload_n 2, 1)), (9, (.iconst (-1), 1)), (10, (.if_icmp .ge 5, 3)), (13, (.iconst (-1), 1)), (14, (.ireturn, 1)), (15, (.iload_n 2, 1)), (16, (.iconst (-1), 1)), (17, (.if_icmp .ne 12, 3)), (20, (.aload_n 0, 1)), (21, (.getfield 13, 3)), (24, (.iload_n 1, 1)), (25, (.iaload, 1)), (26, (.goto 9, 3)), (29, (.aload_n 0, 1)), (30, (.iload_n 1, 1)), (31, (.iload_n 2, 1)), (32, (.invokevirtual 175, 3)), (35, (.ireturn, 1))] = true := by decide +kernel
theorem dX9_partition_0 : decode cX9_partition 0 = .ok (.aload_n 0, 1) := zdcg 0 zdT_dX9_partition_0 rfl
theorem dX9_partition_1 : decode cX9_partition 1 = .ok (.iload_n 1, 1) := zdcg 1 zdT_dX9_partition_0 rfl
theorem dX9_partition_2 : decode cX9_partition 2 = .ok (.invokevirtual 287, 3) := zdcg 2 zdT_dX9_partition_0 rfl
theorem dX9_partition_5 : decode cX9_partition 5 = .ok (.ifCond .eq 8, 3) := zdcg 3 zdT_dX9_partition_0 rfl
theorem dX9_partition_8 : decode cX9_partition 8 = .ok (.iload_n 2, 1) := zdcg 4 zdT_dX9_partition_0 rfl
theorem dX9_partition_9 : decode cX9_partition 9 = .ok (.iconst (-1), 1) := zdcg 5 zdT_dX9_partition_0 rfl
theorem dX9_partition_10 : decode cX9_partition 10 = .ok (.if_icmp .ge 5, 3) := zdcg 6 zdT_dX9_partition_0 rfl
theorem dX9_partition_13 : decode cX9_partition 13 = .ok (.iconst (-1), 1) := zdcg 7 zdT_dX9_partition_0 rfl
theorem dX9_partition_14 : decode cX9_partition 14 = .ok (.ireturn, 1) := zdcg 8 zdT_dX9_partition_0 rfl
theorem dX9_partition_15 : decode cX9_partition 15 = .ok (.iload_n 2, 1) := zdcg 9 zdT_dX9_partition_0 rfl
theorem dX9_partition_16 : decode cX9_partition 16 = .ok (.iconst (-1), 1) := zdcg 10 zdT_dX9_partition_0 rfl
theorem dX9_partition_17 : decode cX9_partition 17 = .ok (.if_icmp .ne 12, 3) := zdcg 11 zdT_dX9_partition_0 rfl
theorem dX9_partition_20 : decode cX9_partition 20 = .ok (.aload_n 0, 1) := zdcg 12 zdT_dX9_partition_0 rfl
theorem dX9_partition_21 : decode cX9_partition 21 = .ok (.getfield 13, 3) := zdcg 13 zdT_dX9_partition_0 rfl
theorem dX9_partition_24 : decode cX9_partition 24 = .ok (.iload_n 1, 1) := zdcg 14 zdT_dX9_partition_0 rfl
theorem dX9_partition_25 : decode cX9_partition 25 = .ok (.iaload, 1) := zdcg 15 zdT_dX9_partition_0 rfl
theorem dX9_partition_26 : decode cX9_partition 26 = .ok (.goto 9, 3) := zdcg 16 zdT_dX9_partition_0 rfl
theorem dX9_partition_29 : decode cX9_partition 29 = .ok (.aload_n 0, 1) := zdcg 17 zdT_dX9_partition_0 rfl
theorem dX9_partition_30 : decode cX9_partition 30 = .ok (.iload_n 1, 1) := zdcg 18 zdT_dX9_partition_0 rfl
theorem dX9_partition_31 : decode cX9_partition 31 = .ok (.iload_n 2, 1) := zdcg 19 zdT_dX9_partition_0 rfl
theorem dX9_partition_32 : decode cX9_partition 32 = .ok (.invokevirtual 175, 3) := zdcg 20 zdT_dX9_partition_0 rfl
theorem dX9_partition_35 : decode cX9_partition 35 = .ok (.ireturn, 1) := zdcg 21 zdT_dX9_partition_0 rfl
theorem zdT_dX9_isTurned_0 : zdch cX9_isTurned [(0, (.iconst 0, 1)), (1, (.istore_n 3, 1)), (2, (.iload_n 3, 1)), (3, (.bipush 6, 2)), (5, (.if_icmp .ge 65, 3)), (8, (.iconst 0, 1)), (9, (.istore 4, 2)), (11, (.iconst 0, 1)), (12, (.istore 5, 2)), (14, (.iload 5, 2)), (16, (.bipush 6, 2)), (18, (.if_icmp .ge 33, 3)), (21, (.iload 4, 2)), (23, (.aload_n 0, 1)), (24, (.iload_n 1, 1)), (25, (.iload 5, 2)), (27, (.invokevirtual 175, 3)), (30, (.iload_n 3, 1)), (31, (.if_icmp .le 7, 3)), (34, (.iconst 1, 1)), (35, (.goto 4, 3)), (38, (.iconst 0, 1)), (39, (.invokestatic 187, 3)), (42, (.iadd, 1)), (43, (.istore 4, 2))] = true := by decide +kernel
theorem dX9_isTurned_0 : decode cX9_isTurned 0 = .ok (.iconst 0, 1) := zdcg 0 zdT_dX9_isTurned_0 rfl
theorem dX9_isTurned_1 : decode cX9_isTurned 1 = .ok (.istore_n 3, 1) := zdcg 1 zdT_dX9_isTurned_0 rfl
theorem dX9_isTurned_2 : decode cX9_isTurned 2 = .ok (.iload_n 3, 1) := zdcg 2 zdT_dX9_isTurned_0 rfl
theorem dX9_isTurned_3 : decode cX9_isTurned 3 = .ok (.bipush 6, 2) := zdcg 3 zdT_dX9_isTurned_0 rfl
theorem dX9_isTurned_5 : decode cX9_isTurned 5 = .ok (.if_icmp .ge 65, 3) := zdcg 4 zdT_dX9_isTurned_0 rfl
theorem dX9_isTurned_8 : decode cX9_isTurned 8 = .ok (.iconst 0, 1) := zdcg 5 zdT_dX9_isTurned_0 rfl
theorem dX9_isTurned_9 : decode cX9_isTurned 9 = .ok (.istore 4, 2) := zdcg 6 zdT_dX9_isTurned_0 rfl
theorem dX9_isTurned_11 : decode cX9_isTurned 11 = .ok (.iconst 0, 1) := zdcg 7 zdT_dX9_isTurned_0 rfl
theorem dX9_isTurned_12 : decode cX9_isTurned 12 = .ok (.istore 5, 2) := zdcg 8 zdT_dX9_isTurned_0 rfl
theorem dX9_isTurned_14 : decode cX9_isTurned 14 = .ok (.iload 5, 2) := zdcg 9 zdT_dX9_isTurned_0 rfl
theorem dX9_isTurned_16 : decode cX9_isTurned 16 = .ok (.bipush 6, 2) := zdcg 10 zdT_dX9_isTurned_0 rfl
theorem dX9_isTurned_18 : decode cX9_isTurned 18 = .ok (.if_icmp .ge 33, 3) := zdcg 11 zdT_dX9_isTurned_0 rfl
theorem dX9_isTurned_21 : decode cX9_isTurned 21 = .ok (.iload 4, 2) := zdcg 12 zdT_dX9_isTurned_0 rfl
theorem dX9_isTurned_23 : decode cX9_isTurned 23 = .ok (.aload_n 0, 1) := zdcg 13 zdT_dX9_isTurned_0 rfl
theorem dX9_isTurned_24 : decode cX9_isTurned 24 = .ok (.iload_n 1, 1) := zdcg 14 zdT_dX9_isTurned_0 rfl
theorem dX9_isTurned_25 : decode cX9_isTurned 25 = .ok (.iload 5, 2) := zdcg 15 zdT_dX9_isTurned_0 rfl
theorem dX9_isTurned_27 : decode cX9_isTurned 27 = .ok (.invokevirtual 175, 3) := zdcg 16 zdT_dX9_isTurned_0 rfl
theorem dX9_isTurned_30 : decode cX9_isTurned 30 = .ok (.iload_n 3, 1) := zdcg 17 zdT_dX9_isTurned_0 rfl
theorem dX9_isTurned_31 : decode cX9_isTurned 31 = .ok (.if_icmp .le 7, 3) := zdcg 18 zdT_dX9_isTurned_0 rfl
theorem dX9_isTurned_34 : decode cX9_isTurned 34 = .ok (.iconst 1, 1) := zdcg 19 zdT_dX9_isTurned_0 rfl
theorem dX9_isTurned_35 : decode cX9_isTurned 35 = .ok (.goto 4, 3) := zdcg 20 zdT_dX9_isTurned_0 rfl
theorem dX9_isTurned_38 : decode cX9_isTurned 38 = .ok (.iconst 0, 1) := zdcg 21 zdT_dX9_isTurned_0 rfl
theorem dX9_isTurned_39 : decode cX9_isTurned 39 = .ok (.invokestatic 187, 3) := zdcg 22 zdT_dX9_isTurned_0 rfl
theorem dX9_isTurned_42 : decode cX9_isTurned 42 = .ok (.iadd, 1) := zdcg 23 zdT_dX9_isTurned_0 rfl
theorem dX9_isTurned_43 : decode cX9_isTurned 43 = .ok (.istore 4, 2) := zdcg 24 zdT_dX9_isTurned_0 rfl
theorem zdT_dX9_isTurned_45 : zdch cX9_isTurned [(45, (.iinc 5 1, 3)), (48, (.goto (-34), 3)), (51, (.aload_n 0, 1)), (52, (.iload_n 2, 1)), (53, (.iload_n 3, 1)), (54, (.invokevirtual 175, 3)), (57, (.iload 4, 2)), (59, (.if_icmp .eq 5, 3)), (62, (.iconst 0, 1)), (63, (.ireturn, 1)), (64, (.iinc 3 1, 3)), (67, (.goto (-65), 3)), (70, (.iconst 1, 1)), (71, (.ireturn, 1))] = true := by decide +kernel
theorem dX9_isTurned_45 : decode cX9_isTurned 45 = .ok (.iinc 5 1, 3) := zdcg 0 zdT_dX9_isTurned_45 rfl
theorem dX9_isTurned_48 : decode cX9_isTurned 48 = .ok (.goto (-34), 3) := zdcg 1 zdT_dX9_isTurned_45 rfl
theorem dX9_isTurned_51 : decode cX9_isTurned 51 = .ok (.aload_n 0, 1) := zdcg 2 zdT_dX9_isTurned_45 rfl
theorem dX9_isTurned_52 : decode cX9_isTurned 52 = .ok (.iload_n 2, 1) := zdcg 3 zdT_dX9_isTurned_45 rfl
theorem dX9_isTurned_53 : decode cX9_isTurned 53 = .ok (.iload_n 3, 1) := zdcg 4 zdT_dX9_isTurned_45 rfl
theorem dX9_isTurned_54 : decode cX9_isTurned 54 = .ok (.invokevirtual 175, 3) := zdcg 5 zdT_dX9_isTurned_45 rfl
theorem dX9_isTurned_57 : decode cX9_isTurned 57 = .ok (.iload 4, 2) := zdcg 6 zdT_dX9_isTurned_45 rfl
theorem dX9_isTurned_59 : decode cX9_isTurned 59 = .ok (.if_icmp .eq 5, 3) := zdcg 7 zdT_dX9_isTurned_45 rfl
theorem dX9_isTurned_62 : decode cX9_isTurned 62 = .ok (.iconst 0, 1) := zdcg 8 zdT_dX9_isTurned_45 rfl
theorem dX9_isTurned_63 : decode cX9_isTurned 63 = .ok (.ireturn, 1) := zdcg 9 zdT_dX9_isTurned_45 rfl
theorem dX9_isTurned_64 : decode cX9_isTurned 64 = .ok (.iinc 3 1, 3) := zdcg 10 zdT_dX9_isTurned_45 rfl
theorem dX9_isTurned_67 : decode cX9_isTurned 67 = .ok (.goto (-65), 3) := zdcg 11 zdT_dX9_isTurned_45 rfl
theorem dX9_isTurned_70 : decode cX9_isTurned 70 = .ok (.iconst 1, 1) := zdcg 12 zdT_dX9_isTurned_45 rfl
theorem dX9_isTurned_71 : decode cX9_isTurned 71 = .ok (.ireturn, 1) := zdcg 13 zdT_dX9_isTurned_45 rfl
theorem zdT_dX9_turned_0 : zdch cX9_turned [(0, (.iconst 0, 1)), (1, (.istore_n 2, 1)), (2, (.aload_n 0, 1)), (3, (.iload_n 1, 1)), (4, (.iload_n 2, 1)), (5, (.invokevirtual 291, 3)), (8, (.ifCond .ne 9, 3)), (11, (.iinc 2 1, 3)), (14, (.goto (-12), 3)), (17, (.iload_n 2, 1)), (18, (.ireturn, 1))] = true := by decide +kernel
theorem dX9_turned_0 : decode cX9_turned 0 = .ok (.iconst 0, 1) := zdcg 0 zdT_dX9_turned_0 rfl
theorem dX9_turned_1 : decode cX9_turned 1 = .ok (.istore_n 2, 1) := zdcg 1 zdT_dX9_turned_0 rfl
theorem dX9_turned_2 : decode cX9_turned 2 = .ok (.aload_n 0, 1) := zdcg 2 zdT_dX9_turned_0 rfl
theorem dX9_turned_3 : decode cX9_turned 3 = .ok (.iload_n 1, 1) := zdcg 3 zdT_dX9_turned_0 rfl
theorem dX9_turned_4 : decode cX9_turned 4 = .ok (.iload_n 2, 1) := zdcg 4 zdT_dX9_turned_0 rfl
theorem dX9_turned_5 : decode cX9_turned 5 = .ok (.invokevirtual 291, 3) := zdcg 5 zdT_dX9_turned_0 rfl
theorem dX9_turned_8 : decode cX9_turned 8 = .ok (.ifCond .ne 9, 3) := zdcg 6 zdT_dX9_turned_0 rfl
theorem dX9_turned_11 : decode cX9_turned 11 = .ok (.iinc 2 1, 3) := zdcg 7 zdT_dX9_turned_0 rfl
theorem dX9_turned_14 : decode cX9_turned 14 = .ok (.goto (-12), 3) := zdcg 8 zdT_dX9_turned_0 rfl
theorem dX9_turned_17 : decode cX9_turned 17 = .ok (.iload_n 2, 1) := zdcg 9 zdT_dX9_turned_0 rfl
theorem dX9_turned_18 : decode cX9_turned 18 = .ok (.ireturn, 1) := zdcg 10 zdT_dX9_turned_0 rfl
theorem zdT_dX9_of_0 : zdch cX9_of [(0, (.aload_n 0, 1)), (1, (.iload_n 1, 1)), (2, (.invokevirtual 287, 3)), (5, (.ifCond .ne 5, 3)), (8, (.iconst (-1), 1)), (9, (.ireturn, 1)), (10, (.iload_n 2, 1)), (11, (.tableswitch 114 0 7 #[45, 55, 62, 69, 76, 83, 89, 107], 45)), (56, (.aload_n 0, 1)), (57, (.getfield 22, 3)), (60, (.iload_n 1, 1)), (61, (.baload, 1)), (62, (.invokestatic 187, 3)), (65, (.ireturn, 1)), (66, (.aload_n 0, 1)), (67, (.getfield 41, 3)), (70, (.iload_n 1, 1)), (71, (.iaload, 1)), (72, (.ireturn, 1)), (73, (.aload_n 0, 1)), (74, (.getfield 47, 3)), (77, (.iload_n 1, 1)), (78, (.iaload, 1)), (79, (.ireturn, 1)), (80, (.aload_n 0, 1))] = true := by decide +kernel
theorem dX9_of_0 : decode cX9_of 0 = .ok (.aload_n 0, 1) := zdcg 0 zdT_dX9_of_0 rfl
theorem dX9_of_1 : decode cX9_of 1 = .ok (.iload_n 1, 1) := zdcg 1 zdT_dX9_of_0 rfl
theorem dX9_of_2 : decode cX9_of 2 = .ok (.invokevirtual 287, 3) := zdcg 2 zdT_dX9_of_0 rfl
theorem dX9_of_5 : decode cX9_of 5 = .ok (.ifCond .ne 5, 3) := zdcg 3 zdT_dX9_of_0 rfl
theorem dX9_of_8 : decode cX9_of 8 = .ok (.iconst (-1), 1) := zdcg 4 zdT_dX9_of_0 rfl
theorem dX9_of_9 : decode cX9_of 9 = .ok (.ireturn, 1) := zdcg 5 zdT_dX9_of_0 rfl
theorem dX9_of_10 : decode cX9_of 10 = .ok (.iload_n 2, 1) := zdcg 6 zdT_dX9_of_0 rfl
theorem dX9_of_11 : decode cX9_of 11 = .ok (.tableswitch 114 0 7 #[45, 55, 62, 69, 76, 83, 89, 107], 45) := zdcg 7 zdT_dX9_of_0 rfl
theorem dX9_of_56 : decode cX9_of 56 = .ok (.aload_n 0, 1) := zdcg 8 zdT_dX9_of_0 rfl
theorem dX9_of_57 : decode cX9_of 57 = .ok (.getfield 22, 3) := zdcg 9 zdT_dX9_of_0 rfl
theorem dX9_of_60 : decode cX9_of 60 = .ok (.iload_n 1, 1) := zdcg 10 zdT_dX9_of_0 rfl
theorem dX9_of_61 : decode cX9_of 61 = .ok (.baload, 1) := zdcg 11 zdT_dX9_of_0 rfl
theorem dX9_of_62 : decode cX9_of 62 = .ok (.invokestatic 187, 3) := zdcg 12 zdT_dX9_of_0 rfl
theorem dX9_of_65 : decode cX9_of 65 = .ok (.ireturn, 1) := zdcg 13 zdT_dX9_of_0 rfl
theorem dX9_of_66 : decode cX9_of 66 = .ok (.aload_n 0, 1) := zdcg 14 zdT_dX9_of_0 rfl
theorem dX9_of_67 : decode cX9_of 67 = .ok (.getfield 41, 3) := zdcg 15 zdT_dX9_of_0 rfl
theorem dX9_of_70 : decode cX9_of 70 = .ok (.iload_n 1, 1) := zdcg 16 zdT_dX9_of_0 rfl
theorem dX9_of_71 : decode cX9_of 71 = .ok (.iaload, 1) := zdcg 17 zdT_dX9_of_0 rfl
theorem dX9_of_72 : decode cX9_of 72 = .ok (.ireturn, 1) := zdcg 18 zdT_dX9_of_0 rfl
theorem dX9_of_73 : decode cX9_of 73 = .ok (.aload_n 0, 1) := zdcg 19 zdT_dX9_of_0 rfl
theorem dX9_of_74 : decode cX9_of 74 = .ok (.getfield 47, 3) := zdcg 20 zdT_dX9_of_0 rfl
theorem dX9_of_77 : decode cX9_of 77 = .ok (.iload_n 1, 1) := zdcg 21 zdT_dX9_of_0 rfl
theorem dX9_of_78 : decode cX9_of 78 = .ok (.iaload, 1) := zdcg 22 zdT_dX9_of_0 rfl
theorem dX9_of_79 : decode cX9_of 79 = .ok (.ireturn, 1) := zdcg 23 zdT_dX9_of_0 rfl
theorem dX9_of_80 : decode cX9_of 80 = .ok (.aload_n 0, 1) := zdcg 24 zdT_dX9_of_0 rfl
theorem zdT_dX9_of_81 : zdch cX9_of [(81, (.getfield 56, 3)), (84, (.iload_n 1, 1)), (85, (.iaload, 1)), (86, (.ireturn, 1)), (87, (.aload_n 0, 1)), (88, (.getfield 93, 3)), (91, (.iload_n 1, 1)), (92, (.iaload, 1)), (93, (.ireturn, 1)), (94, (.aload_n 0, 1)), (95, (.iload_n 1, 1)), (96, (.invokevirtual 295, 3)), (99, (.ireturn, 1)), (100, (.aload_n 0, 1)), (101, (.iload_n 1, 1)), (102, (.invokevirtual 295, 3)), (105, (.iload_n 1, 1)), (106, (.if_icmp .ne 7, 3)), (109, (.iconst 1, 1)), (110, (.goto 4, 3)), (113, (.iconst 0, 1)), (114, (.invokestatic 187, 3)), (117, (.ireturn, 1)), (118, (.aload_n 0, 1)), (119, (.getfield 32, 3))] = true := by decide +kernel
theorem dX9_of_81 : decode cX9_of 81 = .ok (.getfield 56, 3) := zdcg 0 zdT_dX9_of_81 rfl
theorem dX9_of_84 : decode cX9_of 84 = .ok (.iload_n 1, 1) := zdcg 1 zdT_dX9_of_81 rfl
theorem dX9_of_85 : decode cX9_of 85 = .ok (.iaload, 1) := zdcg 2 zdT_dX9_of_81 rfl
theorem dX9_of_86 : decode cX9_of 86 = .ok (.ireturn, 1) := zdcg 3 zdT_dX9_of_81 rfl
theorem dX9_of_87 : decode cX9_of 87 = .ok (.aload_n 0, 1) := zdcg 4 zdT_dX9_of_81 rfl
theorem dX9_of_88 : decode cX9_of 88 = .ok (.getfield 93, 3) := zdcg 5 zdT_dX9_of_81 rfl
theorem dX9_of_91 : decode cX9_of 91 = .ok (.iload_n 1, 1) := zdcg 6 zdT_dX9_of_81 rfl
theorem dX9_of_92 : decode cX9_of 92 = .ok (.iaload, 1) := zdcg 7 zdT_dX9_of_81 rfl
theorem dX9_of_93 : decode cX9_of 93 = .ok (.ireturn, 1) := zdcg 8 zdT_dX9_of_81 rfl
theorem dX9_of_94 : decode cX9_of 94 = .ok (.aload_n 0, 1) := zdcg 9 zdT_dX9_of_81 rfl
theorem dX9_of_95 : decode cX9_of 95 = .ok (.iload_n 1, 1) := zdcg 10 zdT_dX9_of_81 rfl
theorem dX9_of_96 : decode cX9_of 96 = .ok (.invokevirtual 295, 3) := zdcg 11 zdT_dX9_of_81 rfl
theorem dX9_of_99 : decode cX9_of 99 = .ok (.ireturn, 1) := zdcg 12 zdT_dX9_of_81 rfl
theorem dX9_of_100 : decode cX9_of 100 = .ok (.aload_n 0, 1) := zdcg 13 zdT_dX9_of_81 rfl
theorem dX9_of_101 : decode cX9_of 101 = .ok (.iload_n 1, 1) := zdcg 14 zdT_dX9_of_81 rfl
theorem dX9_of_102 : decode cX9_of 102 = .ok (.invokevirtual 295, 3) := zdcg 15 zdT_dX9_of_81 rfl
theorem dX9_of_105 : decode cX9_of 105 = .ok (.iload_n 1, 1) := zdcg 16 zdT_dX9_of_81 rfl
theorem dX9_of_106 : decode cX9_of 106 = .ok (.if_icmp .ne 7, 3) := zdcg 17 zdT_dX9_of_81 rfl
theorem dX9_of_109 : decode cX9_of 109 = .ok (.iconst 1, 1) := zdcg 18 zdT_dX9_of_81 rfl
theorem dX9_of_110 : decode cX9_of 110 = .ok (.goto 4, 3) := zdcg 19 zdT_dX9_of_81 rfl
theorem dX9_of_113 : decode cX9_of 113 = .ok (.iconst 0, 1) := zdcg 20 zdT_dX9_of_81 rfl
theorem dX9_of_114 : decode cX9_of 114 = .ok (.invokestatic 187, 3) := zdcg 21 zdT_dX9_of_81 rfl
theorem dX9_of_117 : decode cX9_of 117 = .ok (.ireturn, 1) := zdcg 22 zdT_dX9_of_81 rfl
theorem dX9_of_118 : decode cX9_of 118 = .ok (.aload_n 0, 1) := zdcg 23 zdT_dX9_of_81 rfl
theorem dX9_of_119 : decode cX9_of 119 = .ok (.getfield 32, 3) := zdcg 24 zdT_dX9_of_81 rfl
theorem zdT_dX9_of_122 : zdch cX9_of [(122, (.iload_n 1, 1)), (123, (.iaload, 1)), (124, (.ireturn, 1)), (125, (.iconst (-1), 1)), (126, (.ireturn, 1))] = true := by decide +kernel
theorem dX9_of_122 : decode cX9_of 122 = .ok (.iload_n 1, 1) := zdcg 0 zdT_dX9_of_122 rfl
theorem dX9_of_123 : decode cX9_of 123 = .ok (.iaload, 1) := zdcg 1 zdT_dX9_of_122 rfl
theorem dX9_of_124 : decode cX9_of 124 = .ok (.ireturn, 1) := zdcg 2 zdT_dX9_of_122 rfl
theorem dX9_of_125 : decode cX9_of 125 = .ok (.iconst (-1), 1) := zdcg 3 zdT_dX9_of_122 rfl
theorem dX9_of_126 : decode cX9_of 126 = .ok (.ireturn, 1) := zdcg 4 zdT_dX9_of_122 rfl
theorem zdT_dX9_core_0 : zdch cX9_core [(0, (.aload_n 0, 1)), (1, (.iload_n 1, 1)), (2, (.invokevirtual 287, 3)), (5, (.ifCond .eq 8, 3)), (8, (.iload_n 2, 1)), (9, (.iconst (-1), 1)), (10, (.if_icmp .ge 5, 3)), (13, (.iconst (-1), 1)), (14, (.ireturn, 1)), (15, (.iload_n 2, 1)), (16, (.iconst (-1), 1)), (17, (.if_icmp .ne 20, 3)), (20, (.aload_n 0, 1)), (21, (.getfield 169, 3)), (24, (.aload_n 0, 1)), (25, (.getfield 184, 3)), (28, (.aload_n 0, 1)), (29, (.getfield 41, 3)), (32, (.iload_n 1, 1)), (33, (.iaload, 1)), (34, (.imul, 1)), (35, (.isub, 1)), (36, (.ireturn, 1)), (37, (.iload_n 2, 1)), (38, (.bipush 6, 2))] = true := by decide +kernel
theorem dX9_core_0 : decode cX9_core 0 = .ok (.aload_n 0, 1) := zdcg 0 zdT_dX9_core_0 rfl
theorem dX9_core_1 : decode cX9_core 1 = .ok (.iload_n 1, 1) := zdcg 1 zdT_dX9_core_0 rfl
theorem dX9_core_2 : decode cX9_core 2 = .ok (.invokevirtual 287, 3) := zdcg 2 zdT_dX9_core_0 rfl
theorem dX9_core_5 : decode cX9_core 5 = .ok (.ifCond .eq 8, 3) := zdcg 3 zdT_dX9_core_0 rfl
theorem dX9_core_8 : decode cX9_core 8 = .ok (.iload_n 2, 1) := zdcg 4 zdT_dX9_core_0 rfl
theorem dX9_core_9 : decode cX9_core 9 = .ok (.iconst (-1), 1) := zdcg 5 zdT_dX9_core_0 rfl
theorem dX9_core_10 : decode cX9_core 10 = .ok (.if_icmp .ge 5, 3) := zdcg 6 zdT_dX9_core_0 rfl
theorem dX9_core_13 : decode cX9_core 13 = .ok (.iconst (-1), 1) := zdcg 7 zdT_dX9_core_0 rfl
theorem dX9_core_14 : decode cX9_core 14 = .ok (.ireturn, 1) := zdcg 8 zdT_dX9_core_0 rfl
theorem dX9_core_15 : decode cX9_core 15 = .ok (.iload_n 2, 1) := zdcg 9 zdT_dX9_core_0 rfl
theorem dX9_core_16 : decode cX9_core 16 = .ok (.iconst (-1), 1) := zdcg 10 zdT_dX9_core_0 rfl
theorem dX9_core_17 : decode cX9_core 17 = .ok (.if_icmp .ne 20, 3) := zdcg 11 zdT_dX9_core_0 rfl
theorem dX9_core_20 : decode cX9_core 20 = .ok (.aload_n 0, 1) := zdcg 12 zdT_dX9_core_0 rfl
theorem dX9_core_21 : decode cX9_core 21 = .ok (.getfield 169, 3) := zdcg 13 zdT_dX9_core_0 rfl
theorem dX9_core_24 : decode cX9_core 24 = .ok (.aload_n 0, 1) := zdcg 14 zdT_dX9_core_0 rfl
theorem dX9_core_25 : decode cX9_core 25 = .ok (.getfield 184, 3) := zdcg 15 zdT_dX9_core_0 rfl
theorem dX9_core_28 : decode cX9_core 28 = .ok (.aload_n 0, 1) := zdcg 16 zdT_dX9_core_0 rfl
theorem dX9_core_29 : decode cX9_core 29 = .ok (.getfield 41, 3) := zdcg 17 zdT_dX9_core_0 rfl
theorem dX9_core_32 : decode cX9_core 32 = .ok (.iload_n 1, 1) := zdcg 18 zdT_dX9_core_0 rfl
theorem dX9_core_33 : decode cX9_core 33 = .ok (.iaload, 1) := zdcg 19 zdT_dX9_core_0 rfl
theorem dX9_core_34 : decode cX9_core 34 = .ok (.imul, 1) := zdcg 20 zdT_dX9_core_0 rfl
theorem dX9_core_35 : decode cX9_core 35 = .ok (.isub, 1) := zdcg 21 zdT_dX9_core_0 rfl
theorem dX9_core_36 : decode cX9_core 36 = .ok (.ireturn, 1) := zdcg 22 zdT_dX9_core_0 rfl
theorem dX9_core_37 : decode cX9_core 37 = .ok (.iload_n 2, 1) := zdcg 23 zdT_dX9_core_0 rfl
theorem dX9_core_38 : decode cX9_core 38 = .ok (.bipush 6, 2) := zdcg 24 zdT_dX9_core_0 rfl
theorem zdT_dX9_core_40 : zdch cX9_core [(40, (.if_icmp .ge 16, 3)), (43, (.aload_n 0, 1)), (44, (.getfield 44, 3)), (47, (.iload_n 1, 1)), (48, (.iaload, 1)), (49, (.iload_n 2, 1)), (50, (.invokestatic 298, 3)), (53, (.goto 4, 3)), (56, (.iconst 0, 1)), (57, (.ireturn, 1))] = true := by decide +kernel
theorem dX9_core_40 : decode cX9_core 40 = .ok (.if_icmp .ge 16, 3) := zdcg 0 zdT_dX9_core_40 rfl
theorem dX9_core_43 : decode cX9_core 43 = .ok (.aload_n 0, 1) := zdcg 1 zdT_dX9_core_40 rfl
theorem dX9_core_44 : decode cX9_core 44 = .ok (.getfield 44, 3) := zdcg 2 zdT_dX9_core_40 rfl
theorem dX9_core_47 : decode cX9_core 47 = .ok (.iload_n 1, 1) := zdcg 3 zdT_dX9_core_40 rfl
theorem dX9_core_48 : decode cX9_core 48 = .ok (.iaload, 1) := zdcg 4 zdT_dX9_core_40 rfl
theorem dX9_core_49 : decode cX9_core 49 = .ok (.iload_n 2, 1) := zdcg 5 zdT_dX9_core_40 rfl
theorem dX9_core_50 : decode cX9_core 50 = .ok (.invokestatic 298, 3) := zdcg 6 zdT_dX9_core_40 rfl
theorem dX9_core_53 : decode cX9_core 53 = .ok (.goto 4, 3) := zdcg 7 zdT_dX9_core_40 rfl
theorem dX9_core_56 : decode cX9_core 56 = .ok (.iconst 0, 1) := zdcg 8 zdT_dX9_core_40 rfl
theorem dX9_core_57 : decode cX9_core 57 = .ok (.ireturn, 1) := zdcg 9 zdT_dX9_core_40 rfl
theorem zdT_dX9_hook_0 : zdch cX9_hook [(0, (.aload_n 0, 1)), (1, (.iload_n 1, 1)), (2, (.invokevirtual 287, 3)), (5, (.ifCond .eq 33, 3)), (8, (.iload_n 2, 1)), (9, (.i2l, 1)), (10, (.lconst 0, 1)), (11, (.ldc2_w 301, 3)), (14, (.invokestatic 283, 3)), (17, (.ifCond .eq 21, 3)), (20, (.iload_n 3, 1)), (21, (.i2l, 1)), (22, (.lconst 0, 1)), (23, (.aload_n 0, 1)), (24, (.iload_n 1, 1)), (25, (.iload_n 2, 1)), (26, (.invokevirtual 175, 3)), (29, (.iconst 1, 1)), (30, (.isub, 1)), (31, (.i2l, 1)), (32, (.invokestatic 283, 3)), (35, (.ifCond .ne 5, 3)), (38, (.iconst (-1), 1)), (39, (.ireturn, 1)), (40, (.aload_n 0, 1))] = true := by decide +kernel
theorem dX9_hook_0 : decode cX9_hook 0 = .ok (.aload_n 0, 1) := zdcg 0 zdT_dX9_hook_0 rfl
theorem dX9_hook_1 : decode cX9_hook 1 = .ok (.iload_n 1, 1) := zdcg 1 zdT_dX9_hook_0 rfl
theorem dX9_hook_2 : decode cX9_hook 2 = .ok (.invokevirtual 287, 3) := zdcg 2 zdT_dX9_hook_0 rfl
theorem dX9_hook_5 : decode cX9_hook 5 = .ok (.ifCond .eq 33, 3) := zdcg 3 zdT_dX9_hook_0 rfl
theorem dX9_hook_8 : decode cX9_hook 8 = .ok (.iload_n 2, 1) := zdcg 4 zdT_dX9_hook_0 rfl
theorem dX9_hook_9 : decode cX9_hook 9 = .ok (.i2l, 1) := zdcg 5 zdT_dX9_hook_0 rfl
theorem dX9_hook_10 : decode cX9_hook 10 = .ok (.lconst 0, 1) := zdcg 6 zdT_dX9_hook_0 rfl
theorem dX9_hook_11 : decode cX9_hook 11 = .ok (.ldc2_w 301, 3) := zdcg 7 zdT_dX9_hook_0 rfl
theorem dX9_hook_14 : decode cX9_hook 14 = .ok (.invokestatic 283, 3) := zdcg 8 zdT_dX9_hook_0 rfl
theorem dX9_hook_17 : decode cX9_hook 17 = .ok (.ifCond .eq 21, 3) := zdcg 9 zdT_dX9_hook_0 rfl
theorem dX9_hook_20 : decode cX9_hook 20 = .ok (.iload_n 3, 1) := zdcg 10 zdT_dX9_hook_0 rfl
theorem dX9_hook_21 : decode cX9_hook 21 = .ok (.i2l, 1) := zdcg 11 zdT_dX9_hook_0 rfl
theorem dX9_hook_22 : decode cX9_hook 22 = .ok (.lconst 0, 1) := zdcg 12 zdT_dX9_hook_0 rfl
theorem dX9_hook_23 : decode cX9_hook 23 = .ok (.aload_n 0, 1) := zdcg 13 zdT_dX9_hook_0 rfl
theorem dX9_hook_24 : decode cX9_hook 24 = .ok (.iload_n 1, 1) := zdcg 14 zdT_dX9_hook_0 rfl
theorem dX9_hook_25 : decode cX9_hook 25 = .ok (.iload_n 2, 1) := zdcg 15 zdT_dX9_hook_0 rfl
theorem dX9_hook_26 : decode cX9_hook 26 = .ok (.invokevirtual 175, 3) := zdcg 16 zdT_dX9_hook_0 rfl
theorem dX9_hook_29 : decode cX9_hook 29 = .ok (.iconst 1, 1) := zdcg 17 zdT_dX9_hook_0 rfl
theorem dX9_hook_30 : decode cX9_hook 30 = .ok (.isub, 1) := zdcg 18 zdT_dX9_hook_0 rfl
theorem dX9_hook_31 : decode cX9_hook 31 = .ok (.i2l, 1) := zdcg 19 zdT_dX9_hook_0 rfl
theorem dX9_hook_32 : decode cX9_hook 32 = .ok (.invokestatic 283, 3) := zdcg 20 zdT_dX9_hook_0 rfl
theorem dX9_hook_35 : decode cX9_hook 35 = .ok (.ifCond .ne 5, 3) := zdcg 21 zdT_dX9_hook_0 rfl
theorem dX9_hook_38 : decode cX9_hook 38 = .ok (.iconst (-1), 1) := zdcg 22 zdT_dX9_hook_0 rfl
theorem dX9_hook_39 : decode cX9_hook 39 = .ok (.ireturn, 1) := zdcg 23 zdT_dX9_hook_0 rfl
theorem dX9_hook_40 : decode cX9_hook 40 = .ok (.aload_n 0, 1) := zdcg 24 zdT_dX9_hook_0 rfl
theorem zdT_dX9_hook_41 : zdch cX9_hook [(41, (.iload_n 1, 1)), (42, (.iload_n 2, 1)), (43, (.invokevirtual 175, 3)), (46, (.iload_n 3, 1)), (47, (.isub, 1)), (48, (.istore 4, 2)), (50, (.iload_n 2, 1)), (51, (.iconst 1, 1)), (52, (.iadd, 1)), (53, (.istore 5, 2)), (55, (.iload 5, 2)), (57, (.bipush 6, 2)), (59, (.if_icmp .ge 33, 3)), (62, (.iload 4, 2)), (64, (.aload_n 0, 1)), (65, (.iload_n 1, 1)), (66, (.iload 5, 2)), (68, (.invokevirtual 175, 3)), (71, (.iload_n 3, 1)), (72, (.if_icmp .le 7, 3)), (75, (.iconst 1, 1)), (76, (.goto 4, 3)), (79, (.iconst 0, 1)), (80, (.invokestatic 187, 3)), (83, (.iadd, 1))] = true := by decide +kernel
theorem dX9_hook_41 : decode cX9_hook 41 = .ok (.iload_n 1, 1) := zdcg 0 zdT_dX9_hook_41 rfl
theorem dX9_hook_42 : decode cX9_hook 42 = .ok (.iload_n 2, 1) := zdcg 1 zdT_dX9_hook_41 rfl
theorem dX9_hook_43 : decode cX9_hook 43 = .ok (.invokevirtual 175, 3) := zdcg 2 zdT_dX9_hook_41 rfl
theorem dX9_hook_46 : decode cX9_hook 46 = .ok (.iload_n 3, 1) := zdcg 3 zdT_dX9_hook_41 rfl
theorem dX9_hook_47 : decode cX9_hook 47 = .ok (.isub, 1) := zdcg 4 zdT_dX9_hook_41 rfl
theorem dX9_hook_48 : decode cX9_hook 48 = .ok (.istore 4, 2) := zdcg 5 zdT_dX9_hook_41 rfl
theorem dX9_hook_50 : decode cX9_hook 50 = .ok (.iload_n 2, 1) := zdcg 6 zdT_dX9_hook_41 rfl
theorem dX9_hook_51 : decode cX9_hook 51 = .ok (.iconst 1, 1) := zdcg 7 zdT_dX9_hook_41 rfl
theorem dX9_hook_52 : decode cX9_hook 52 = .ok (.iadd, 1) := zdcg 8 zdT_dX9_hook_41 rfl
theorem dX9_hook_53 : decode cX9_hook 53 = .ok (.istore 5, 2) := zdcg 9 zdT_dX9_hook_41 rfl
theorem dX9_hook_55 : decode cX9_hook 55 = .ok (.iload 5, 2) := zdcg 10 zdT_dX9_hook_41 rfl
theorem dX9_hook_57 : decode cX9_hook 57 = .ok (.bipush 6, 2) := zdcg 11 zdT_dX9_hook_41 rfl
theorem dX9_hook_59 : decode cX9_hook 59 = .ok (.if_icmp .ge 33, 3) := zdcg 12 zdT_dX9_hook_41 rfl
theorem dX9_hook_62 : decode cX9_hook 62 = .ok (.iload 4, 2) := zdcg 13 zdT_dX9_hook_41 rfl
theorem dX9_hook_64 : decode cX9_hook 64 = .ok (.aload_n 0, 1) := zdcg 14 zdT_dX9_hook_41 rfl
theorem dX9_hook_65 : decode cX9_hook 65 = .ok (.iload_n 1, 1) := zdcg 15 zdT_dX9_hook_41 rfl
theorem dX9_hook_66 : decode cX9_hook 66 = .ok (.iload 5, 2) := zdcg 16 zdT_dX9_hook_41 rfl
theorem dX9_hook_68 : decode cX9_hook 68 = .ok (.invokevirtual 175, 3) := zdcg 17 zdT_dX9_hook_41 rfl
theorem dX9_hook_71 : decode cX9_hook 71 = .ok (.iload_n 3, 1) := zdcg 18 zdT_dX9_hook_41 rfl
theorem dX9_hook_72 : decode cX9_hook 72 = .ok (.if_icmp .le 7, 3) := zdcg 19 zdT_dX9_hook_41 rfl
theorem dX9_hook_75 : decode cX9_hook 75 = .ok (.iconst 1, 1) := zdcg 20 zdT_dX9_hook_41 rfl
theorem dX9_hook_76 : decode cX9_hook 76 = .ok (.goto 4, 3) := zdcg 21 zdT_dX9_hook_41 rfl
theorem dX9_hook_79 : decode cX9_hook 79 = .ok (.iconst 0, 1) := zdcg 22 zdT_dX9_hook_41 rfl
theorem dX9_hook_80 : decode cX9_hook 80 = .ok (.invokestatic 187, 3) := zdcg 23 zdT_dX9_hook_41 rfl
theorem dX9_hook_83 : decode cX9_hook 83 = .ok (.iadd, 1) := zdcg 24 zdT_dX9_hook_41 rfl
theorem zdT_dX9_hook_84 : zdch cX9_hook [(84, (.istore 4, 2)), (86, (.iinc 5 1, 3)), (89, (.goto (-34), 3)), (92, (.iload 4, 2)), (94, (.ireturn, 1))] = true := by decide +kernel
theorem dX9_hook_84 : decode cX9_hook 84 = .ok (.istore 4, 2) := zdcg 0 zdT_dX9_hook_84 rfl
theorem dX9_hook_86 : decode cX9_hook 86 = .ok (.iinc 5 1, 3) := zdcg 1 zdT_dX9_hook_84 rfl
theorem dX9_hook_89 : decode cX9_hook 89 = .ok (.goto (-34), 3) := zdcg 2 zdT_dX9_hook_84 rfl
theorem dX9_hook_92 : decode cX9_hook 92 = .ok (.iload 4, 2) := zdcg 3 zdT_dX9_hook_84 rfl
theorem dX9_hook_94 : decode cX9_hook 94 = .ok (.ireturn, 1) := zdcg 4 zdT_dX9_hook_84 rfl
theorem zdT_dX9_classOf_0 : zdch cX9_classOf [(0, (.aload_n 0, 1)), (1, (.iload_n 1, 1)), (2, (.invokevirtual 287, 3)), (5, (.ifCond .ne 6, 3)), (8, (.bipush (-2), 2)), (10, (.ireturn, 1)), (11, (.iload_n 2, 1)), (12, (.tableswitch 79 0 4 #[36, 43, 50, 60, 67], 36)), (48, (.aload_n 0, 1)), (49, (.getfield 16, 3)), (52, (.iload_n 1, 1)), (53, (.iaload, 1)), (54, (.ireturn, 1)), (55, (.aload_n 0, 1)), (56, (.getfield 19, 3)), (59, (.iload_n 1, 1)), (60, (.iaload, 1)), (61, (.ireturn, 1)), (62, (.aload_n 0, 1)), (63, (.getfield 26, 3)), (66, (.iload_n 1, 1)), (67, (.baload, 1)), (68, (.invokestatic 187, 3)), (71, (.ireturn, 1)), (72, (.aload_n 0, 1))] = true := by decide +kernel
theorem dX9_classOf_0 : decode cX9_classOf 0 = .ok (.aload_n 0, 1) := zdcg 0 zdT_dX9_classOf_0 rfl
theorem dX9_classOf_1 : decode cX9_classOf 1 = .ok (.iload_n 1, 1) := zdcg 1 zdT_dX9_classOf_0 rfl
theorem dX9_classOf_2 : decode cX9_classOf 2 = .ok (.invokevirtual 287, 3) := zdcg 2 zdT_dX9_classOf_0 rfl
theorem dX9_classOf_5 : decode cX9_classOf 5 = .ok (.ifCond .ne 6, 3) := zdcg 3 zdT_dX9_classOf_0 rfl
theorem dX9_classOf_8 : decode cX9_classOf 8 = .ok (.bipush (-2), 2) := zdcg 4 zdT_dX9_classOf_0 rfl
theorem dX9_classOf_10 : decode cX9_classOf 10 = .ok (.ireturn, 1) := zdcg 5 zdT_dX9_classOf_0 rfl
theorem dX9_classOf_11 : decode cX9_classOf 11 = .ok (.iload_n 2, 1) := zdcg 6 zdT_dX9_classOf_0 rfl
theorem dX9_classOf_12 : decode cX9_classOf 12 = .ok (.tableswitch 79 0 4 #[36, 43, 50, 60, 67], 36) := zdcg 7 zdT_dX9_classOf_0 rfl
theorem dX9_classOf_48 : decode cX9_classOf 48 = .ok (.aload_n 0, 1) := zdcg 8 zdT_dX9_classOf_0 rfl
theorem dX9_classOf_49 : decode cX9_classOf 49 = .ok (.getfield 16, 3) := zdcg 9 zdT_dX9_classOf_0 rfl
theorem dX9_classOf_52 : decode cX9_classOf 52 = .ok (.iload_n 1, 1) := zdcg 10 zdT_dX9_classOf_0 rfl
theorem dX9_classOf_53 : decode cX9_classOf 53 = .ok (.iaload, 1) := zdcg 11 zdT_dX9_classOf_0 rfl
theorem dX9_classOf_54 : decode cX9_classOf 54 = .ok (.ireturn, 1) := zdcg 12 zdT_dX9_classOf_0 rfl
theorem dX9_classOf_55 : decode cX9_classOf 55 = .ok (.aload_n 0, 1) := zdcg 13 zdT_dX9_classOf_0 rfl
theorem dX9_classOf_56 : decode cX9_classOf 56 = .ok (.getfield 19, 3) := zdcg 14 zdT_dX9_classOf_0 rfl
theorem dX9_classOf_59 : decode cX9_classOf 59 = .ok (.iload_n 1, 1) := zdcg 15 zdT_dX9_classOf_0 rfl
theorem dX9_classOf_60 : decode cX9_classOf 60 = .ok (.iaload, 1) := zdcg 16 zdT_dX9_classOf_0 rfl
theorem dX9_classOf_61 : decode cX9_classOf 61 = .ok (.ireturn, 1) := zdcg 17 zdT_dX9_classOf_0 rfl
theorem dX9_classOf_62 : decode cX9_classOf 62 = .ok (.aload_n 0, 1) := zdcg 18 zdT_dX9_classOf_0 rfl
theorem dX9_classOf_63 : decode cX9_classOf 63 = .ok (.getfield 26, 3) := zdcg 19 zdT_dX9_classOf_0 rfl
theorem dX9_classOf_66 : decode cX9_classOf 66 = .ok (.iload_n 1, 1) := zdcg 20 zdT_dX9_classOf_0 rfl
theorem dX9_classOf_67 : decode cX9_classOf 67 = .ok (.baload, 1) := zdcg 21 zdT_dX9_classOf_0 rfl
theorem dX9_classOf_68 : decode cX9_classOf 68 = .ok (.invokestatic 187, 3) := zdcg 22 zdT_dX9_classOf_0 rfl
theorem dX9_classOf_71 : decode cX9_classOf 71 = .ok (.ireturn, 1) := zdcg 23 zdT_dX9_classOf_0 rfl
theorem dX9_classOf_72 : decode cX9_classOf 72 = .ok (.aload_n 0, 1) := zdcg 24 zdT_dX9_classOf_0 rfl
theorem zdT_dX9_classOf_73 : zdch cX9_classOf [(73, (.getfield 29, 3)), (76, (.iload_n 1, 1)), (77, (.iaload, 1)), (78, (.ireturn, 1)), (79, (.aload_n 0, 1)), (80, (.getfield 166, 3)), (83, (.aload_n 0, 1)), (84, (.getfield 16, 3)), (87, (.iload_n 1, 1)), (88, (.iaload, 1)), (89, (.idiv, 1)), (90, (.ireturn, 1)), (91, (.bipush (-2), 2)), (93, (.ireturn, 1))] = true := by decide +kernel
theorem dX9_classOf_73 : decode cX9_classOf 73 = .ok (.getfield 29, 3) := zdcg 0 zdT_dX9_classOf_73 rfl
theorem dX9_classOf_76 : decode cX9_classOf 76 = .ok (.iload_n 1, 1) := zdcg 1 zdT_dX9_classOf_73 rfl
theorem dX9_classOf_77 : decode cX9_classOf 77 = .ok (.iaload, 1) := zdcg 2 zdT_dX9_classOf_73 rfl
theorem dX9_classOf_78 : decode cX9_classOf 78 = .ok (.ireturn, 1) := zdcg 3 zdT_dX9_classOf_73 rfl
theorem dX9_classOf_79 : decode cX9_classOf 79 = .ok (.aload_n 0, 1) := zdcg 4 zdT_dX9_classOf_73 rfl
theorem dX9_classOf_80 : decode cX9_classOf 80 = .ok (.getfield 166, 3) := zdcg 5 zdT_dX9_classOf_73 rfl
theorem dX9_classOf_83 : decode cX9_classOf 83 = .ok (.aload_n 0, 1) := zdcg 6 zdT_dX9_classOf_73 rfl
theorem dX9_classOf_84 : decode cX9_classOf 84 = .ok (.getfield 16, 3) := zdcg 7 zdT_dX9_classOf_73 rfl
theorem dX9_classOf_87 : decode cX9_classOf 87 = .ok (.iload_n 1, 1) := zdcg 8 zdT_dX9_classOf_73 rfl
theorem dX9_classOf_88 : decode cX9_classOf 88 = .ok (.iaload, 1) := zdcg 9 zdT_dX9_classOf_73 rfl
theorem dX9_classOf_89 : decode cX9_classOf 89 = .ok (.idiv, 1) := zdcg 10 zdT_dX9_classOf_73 rfl
theorem dX9_classOf_90 : decode cX9_classOf 90 = .ok (.ireturn, 1) := zdcg 11 zdT_dX9_classOf_73 rfl
theorem dX9_classOf_91 : decode cX9_classOf 91 = .ok (.bipush (-2), 2) := zdcg 12 zdT_dX9_classOf_73 rfl
theorem dX9_classOf_93 : decode cX9_classOf 93 = .ok (.ireturn, 1) := zdcg 13 zdT_dX9_classOf_73 rfl
theorem zdT_dX9_character_0 : zdch cX9_character [(0, (.aload_n 0, 1)), (1, (.iload_n 1, 1)), (2, (.invokevirtual 287, 3)), (5, (.ifCond .eq 25, 3)), (8, (.aload_n 0, 1)), (9, (.iload_n 2, 1)), (10, (.invokevirtual 287, 3)), (13, (.ifCond .eq 17, 3)), (16, (.aload_n 0, 1)), (17, (.getfield 38, 3)), (20, (.bipush 11, 2)), (22, (.iload_n 1, 1)), (23, (.imul, 1)), (24, (.iload_n 2, 1)), (25, (.iadd, 1)), (26, (.iaload, 1)), (27, (.goto 6, 3)), (30, (.sipush (-1001), 3)), (33, (.ireturn, 1))] = true := by decide +kernel
theorem dX9_character_0 : decode cX9_character 0 = .ok (.aload_n 0, 1) := zdcg 0 zdT_dX9_character_0 rfl
theorem dX9_character_1 : decode cX9_character 1 = .ok (.iload_n 1, 1) := zdcg 1 zdT_dX9_character_0 rfl
theorem dX9_character_2 : decode cX9_character 2 = .ok (.invokevirtual 287, 3) := zdcg 2 zdT_dX9_character_0 rfl
theorem dX9_character_5 : decode cX9_character 5 = .ok (.ifCond .eq 25, 3) := zdcg 3 zdT_dX9_character_0 rfl
theorem dX9_character_8 : decode cX9_character 8 = .ok (.aload_n 0, 1) := zdcg 4 zdT_dX9_character_0 rfl
theorem dX9_character_9 : decode cX9_character 9 = .ok (.iload_n 2, 1) := zdcg 5 zdT_dX9_character_0 rfl
theorem dX9_character_10 : decode cX9_character 10 = .ok (.invokevirtual 287, 3) := zdcg 6 zdT_dX9_character_0 rfl
theorem dX9_character_13 : decode cX9_character 13 = .ok (.ifCond .eq 17, 3) := zdcg 7 zdT_dX9_character_0 rfl
theorem dX9_character_16 : decode cX9_character 16 = .ok (.aload_n 0, 1) := zdcg 8 zdT_dX9_character_0 rfl
theorem dX9_character_17 : decode cX9_character 17 = .ok (.getfield 38, 3) := zdcg 9 zdT_dX9_character_0 rfl
theorem dX9_character_20 : decode cX9_character 20 = .ok (.bipush 11, 2) := zdcg 10 zdT_dX9_character_0 rfl
theorem dX9_character_22 : decode cX9_character 22 = .ok (.iload_n 1, 1) := zdcg 11 zdT_dX9_character_0 rfl
theorem dX9_character_23 : decode cX9_character 23 = .ok (.imul, 1) := zdcg 12 zdT_dX9_character_0 rfl
theorem dX9_character_24 : decode cX9_character 24 = .ok (.iload_n 2, 1) := zdcg 13 zdT_dX9_character_0 rfl
theorem dX9_character_25 : decode cX9_character 25 = .ok (.iadd, 1) := zdcg 14 zdT_dX9_character_0 rfl
theorem dX9_character_26 : decode cX9_character 26 = .ok (.iaload, 1) := zdcg 15 zdT_dX9_character_0 rfl
theorem dX9_character_27 : decode cX9_character 27 = .ok (.goto 6, 3) := zdcg 16 zdT_dX9_character_0 rfl
theorem dX9_character_30 : decode cX9_character 30 = .ok (.sipush (-1001), 3) := zdcg 17 zdT_dX9_character_0 rfl
theorem dX9_character_33 : decode cX9_character 33 = .ok (.ireturn, 1) := zdcg 18 zdT_dX9_character_0 rfl
theorem zdT_dX9_modular_0 : zdch cX9_modular [(0, (.aload_n 0, 1)), (1, (.iload_n 1, 1)), (2, (.invokevirtual 287, 3)), (5, (.ifCond .eq 43, 3)), (8, (.aload_n 0, 1)), (9, (.iload_n 2, 1)), (10, (.invokevirtual 287, 3)), (13, (.ifCond .eq 35, 3)), (16, (.aload_n 0, 1)), (17, (.getfield 22, 3)), (20, (.iload_n 1, 1)), (21, (.baload, 1)), (22, (.ifCond .eq 26, 3)), (25, (.aload_n 0, 1)), (26, (.getfield 26, 3)), (29, (.iload_n 2, 1)), (30, (.baload, 1)), (31, (.ifCond .eq 17, 3)), (34, (.aload_n 0, 1)), (35, (.getfield 96, 3)), (38, (.bipush 11, 2)), (40, (.iload_n 1, 1)), (41, (.imul, 1)), (42, (.iload_n 2, 1)), (43, (.iadd, 1))] = true := by decide +kernel
theorem dX9_modular_0 : decode cX9_modular 0 = .ok (.aload_n 0, 1) := zdcg 0 zdT_dX9_modular_0 rfl
theorem dX9_modular_1 : decode cX9_modular 1 = .ok (.iload_n 1, 1) := zdcg 1 zdT_dX9_modular_0 rfl
theorem dX9_modular_2 : decode cX9_modular 2 = .ok (.invokevirtual 287, 3) := zdcg 2 zdT_dX9_modular_0 rfl
theorem dX9_modular_5 : decode cX9_modular 5 = .ok (.ifCond .eq 43, 3) := zdcg 3 zdT_dX9_modular_0 rfl
theorem dX9_modular_8 : decode cX9_modular 8 = .ok (.aload_n 0, 1) := zdcg 4 zdT_dX9_modular_0 rfl
theorem dX9_modular_9 : decode cX9_modular 9 = .ok (.iload_n 2, 1) := zdcg 5 zdT_dX9_modular_0 rfl
theorem dX9_modular_10 : decode cX9_modular 10 = .ok (.invokevirtual 287, 3) := zdcg 6 zdT_dX9_modular_0 rfl
theorem dX9_modular_13 : decode cX9_modular 13 = .ok (.ifCond .eq 35, 3) := zdcg 7 zdT_dX9_modular_0 rfl
theorem dX9_modular_16 : decode cX9_modular 16 = .ok (.aload_n 0, 1) := zdcg 8 zdT_dX9_modular_0 rfl
theorem dX9_modular_17 : decode cX9_modular 17 = .ok (.getfield 22, 3) := zdcg 9 zdT_dX9_modular_0 rfl
theorem dX9_modular_20 : decode cX9_modular 20 = .ok (.iload_n 1, 1) := zdcg 10 zdT_dX9_modular_0 rfl
theorem dX9_modular_21 : decode cX9_modular 21 = .ok (.baload, 1) := zdcg 11 zdT_dX9_modular_0 rfl
theorem dX9_modular_22 : decode cX9_modular 22 = .ok (.ifCond .eq 26, 3) := zdcg 12 zdT_dX9_modular_0 rfl
theorem dX9_modular_25 : decode cX9_modular 25 = .ok (.aload_n 0, 1) := zdcg 13 zdT_dX9_modular_0 rfl
theorem dX9_modular_26 : decode cX9_modular 26 = .ok (.getfield 26, 3) := zdcg 14 zdT_dX9_modular_0 rfl
theorem dX9_modular_29 : decode cX9_modular 29 = .ok (.iload_n 2, 1) := zdcg 15 zdT_dX9_modular_0 rfl
theorem dX9_modular_30 : decode cX9_modular 30 = .ok (.baload, 1) := zdcg 16 zdT_dX9_modular_0 rfl
theorem dX9_modular_31 : decode cX9_modular 31 = .ok (.ifCond .eq 17, 3) := zdcg 17 zdT_dX9_modular_0 rfl
theorem dX9_modular_34 : decode cX9_modular 34 = .ok (.aload_n 0, 1) := zdcg 18 zdT_dX9_modular_0 rfl
theorem dX9_modular_35 : decode cX9_modular 35 = .ok (.getfield 96, 3) := zdcg 19 zdT_dX9_modular_0 rfl
theorem dX9_modular_38 : decode cX9_modular 38 = .ok (.bipush 11, 2) := zdcg 20 zdT_dX9_modular_0 rfl
theorem dX9_modular_40 : decode cX9_modular 40 = .ok (.iload_n 1, 1) := zdcg 21 zdT_dX9_modular_0 rfl
theorem dX9_modular_41 : decode cX9_modular 41 = .ok (.imul, 1) := zdcg 22 zdT_dX9_modular_0 rfl
theorem dX9_modular_42 : decode cX9_modular 42 = .ok (.iload_n 2, 1) := zdcg 23 zdT_dX9_modular_0 rfl
theorem dX9_modular_43 : decode cX9_modular 43 = .ok (.iadd, 1) := zdcg 24 zdT_dX9_modular_0 rfl
theorem zdT_dX9_modular_44 : zdch cX9_modular [(44, (.iaload, 1)), (45, (.goto 6, 3)), (48, (.sipush (-1001), 3)), (51, (.ireturn, 1))] = true := by decide +kernel
theorem dX9_modular_44 : decode cX9_modular 44 = .ok (.iaload, 1) := zdcg 0 zdT_dX9_modular_44 rfl
theorem dX9_modular_45 : decode cX9_modular 45 = .ok (.goto 6, 3) := zdcg 1 zdT_dX9_modular_44 rfl
theorem dX9_modular_48 : decode cX9_modular 48 = .ok (.sipush (-1001), 3) := zdcg 2 zdT_dX9_modular_44 rfl
theorem dX9_modular_51 : decode cX9_modular 51 = .ok (.ireturn, 1) := zdcg 3 zdT_dX9_modular_44 rfl
theorem zdT_dX9_projective_0 : zdch cX9_projective [(0, (.aload_n 0, 1)), (1, (.iload_n 1, 1)), (2, (.invokevirtual 287, 3)), (5, (.ifCond .eq 34, 3)), (8, (.aload_n 0, 1)), (9, (.iload_n 2, 1)), (10, (.invokevirtual 287, 3)), (13, (.ifCond .eq 26, 3)), (16, (.aload_n 0, 1)), (17, (.getfield 22, 3)), (20, (.iload_n 1, 1)), (21, (.baload, 1)), (22, (.ifCond .eq 17, 3)), (25, (.aload_n 0, 1)), (26, (.getfield 105, 3)), (29, (.bipush 11, 2)), (31, (.iload_n 1, 1)), (32, (.imul, 1)), (33, (.iload_n 2, 1)), (34, (.iadd, 1)), (35, (.iaload, 1)), (36, (.goto 6, 3)), (39, (.sipush (-1001), 3)), (42, (.ireturn, 1))] = true := by decide +kernel
theorem dX9_projective_0 : decode cX9_projective 0 = .ok (.aload_n 0, 1) := zdcg 0 zdT_dX9_projective_0 rfl
theorem dX9_projective_1 : decode cX9_projective 1 = .ok (.iload_n 1, 1) := zdcg 1 zdT_dX9_projective_0 rfl
theorem dX9_projective_2 : decode cX9_projective 2 = .ok (.invokevirtual 287, 3) := zdcg 2 zdT_dX9_projective_0 rfl
theorem dX9_projective_5 : decode cX9_projective 5 = .ok (.ifCond .eq 34, 3) := zdcg 3 zdT_dX9_projective_0 rfl
theorem dX9_projective_8 : decode cX9_projective 8 = .ok (.aload_n 0, 1) := zdcg 4 zdT_dX9_projective_0 rfl
theorem dX9_projective_9 : decode cX9_projective 9 = .ok (.iload_n 2, 1) := zdcg 5 zdT_dX9_projective_0 rfl
theorem dX9_projective_10 : decode cX9_projective 10 = .ok (.invokevirtual 287, 3) := zdcg 6 zdT_dX9_projective_0 rfl
theorem dX9_projective_13 : decode cX9_projective 13 = .ok (.ifCond .eq 26, 3) := zdcg 7 zdT_dX9_projective_0 rfl
theorem dX9_projective_16 : decode cX9_projective 16 = .ok (.aload_n 0, 1) := zdcg 8 zdT_dX9_projective_0 rfl
theorem dX9_projective_17 : decode cX9_projective 17 = .ok (.getfield 22, 3) := zdcg 9 zdT_dX9_projective_0 rfl
theorem dX9_projective_20 : decode cX9_projective 20 = .ok (.iload_n 1, 1) := zdcg 10 zdT_dX9_projective_0 rfl
theorem dX9_projective_21 : decode cX9_projective 21 = .ok (.baload, 1) := zdcg 11 zdT_dX9_projective_0 rfl
theorem dX9_projective_22 : decode cX9_projective 22 = .ok (.ifCond .eq 17, 3) := zdcg 12 zdT_dX9_projective_0 rfl
theorem dX9_projective_25 : decode cX9_projective 25 = .ok (.aload_n 0, 1) := zdcg 13 zdT_dX9_projective_0 rfl
theorem dX9_projective_26 : decode cX9_projective 26 = .ok (.getfield 105, 3) := zdcg 14 zdT_dX9_projective_0 rfl
theorem dX9_projective_29 : decode cX9_projective 29 = .ok (.bipush 11, 2) := zdcg 15 zdT_dX9_projective_0 rfl
theorem dX9_projective_31 : decode cX9_projective 31 = .ok (.iload_n 1, 1) := zdcg 16 zdT_dX9_projective_0 rfl
theorem dX9_projective_32 : decode cX9_projective 32 = .ok (.imul, 1) := zdcg 17 zdT_dX9_projective_0 rfl
theorem dX9_projective_33 : decode cX9_projective 33 = .ok (.iload_n 2, 1) := zdcg 18 zdT_dX9_projective_0 rfl
theorem dX9_projective_34 : decode cX9_projective 34 = .ok (.iadd, 1) := zdcg 19 zdT_dX9_projective_0 rfl
theorem dX9_projective_35 : decode cX9_projective 35 = .ok (.iaload, 1) := zdcg 20 zdT_dX9_projective_0 rfl
theorem dX9_projective_36 : decode cX9_projective 36 = .ok (.goto 6, 3) := zdcg 21 zdT_dX9_projective_0 rfl
theorem dX9_projective_39 : decode cX9_projective 39 = .ok (.sipush (-1001), 3) := zdcg 22 zdT_dX9_projective_0 rfl
theorem dX9_projective_42 : decode cX9_projective 42 = .ok (.ireturn, 1) := zdcg 23 zdT_dX9_projective_0 rfl
theorem zdT_dX9_isRegularOne_0 : zdch cX9_isRegularOne [(0, (.aload_n 0, 1)), (1, (.iload_n 1, 1)), (2, (.invokevirtual 287, 3)), (5, (.ifCond .eq 16, 3)), (8, (.aload_n 0, 1)), (9, (.getfield 22, 3)), (12, (.iload_n 1, 1)), (13, (.baload, 1)), (14, (.ifCond .eq 7, 3)), (17, (.iconst 1, 1)), (18, (.goto 4, 3)), (21, (.iconst 0, 1)), (22, (.ireturn, 1))] = true := by decide +kernel
theorem dX9_isRegularOne_0 : decode cX9_isRegularOne 0 = .ok (.aload_n 0, 1) := zdcg 0 zdT_dX9_isRegularOne_0 rfl
theorem dX9_isRegularOne_1 : decode cX9_isRegularOne 1 = .ok (.iload_n 1, 1) := zdcg 1 zdT_dX9_isRegularOne_0 rfl
theorem dX9_isRegularOne_2 : decode cX9_isRegularOne 2 = .ok (.invokevirtual 287, 3) := zdcg 2 zdT_dX9_isRegularOne_0 rfl
theorem dX9_isRegularOne_5 : decode cX9_isRegularOne 5 = .ok (.ifCond .eq 16, 3) := zdcg 3 zdT_dX9_isRegularOne_0 rfl
theorem dX9_isRegularOne_8 : decode cX9_isRegularOne 8 = .ok (.aload_n 0, 1) := zdcg 4 zdT_dX9_isRegularOne_0 rfl
theorem dX9_isRegularOne_9 : decode cX9_isRegularOne 9 = .ok (.getfield 22, 3) := zdcg 5 zdT_dX9_isRegularOne_0 rfl
theorem dX9_isRegularOne_12 : decode cX9_isRegularOne 12 = .ok (.iload_n 1, 1) := zdcg 6 zdT_dX9_isRegularOne_0 rfl
theorem dX9_isRegularOne_13 : decode cX9_isRegularOne 13 = .ok (.baload, 1) := zdcg 7 zdT_dX9_isRegularOne_0 rfl
theorem dX9_isRegularOne_14 : decode cX9_isRegularOne 14 = .ok (.ifCond .eq 7, 3) := zdcg 8 zdT_dX9_isRegularOne_0 rfl
theorem dX9_isRegularOne_17 : decode cX9_isRegularOne 17 = .ok (.iconst 1, 1) := zdcg 9 zdT_dX9_isRegularOne_0 rfl
theorem dX9_isRegularOne_18 : decode cX9_isRegularOne 18 = .ok (.goto 4, 3) := zdcg 10 zdT_dX9_isRegularOne_0 rfl
theorem dX9_isRegularOne_21 : decode cX9_isRegularOne 21 = .ok (.iconst 0, 1) := zdcg 11 zdT_dX9_isRegularOne_0 rfl
theorem dX9_isRegularOne_22 : decode cX9_isRegularOne 22 = .ok (.ireturn, 1) := zdcg 12 zdT_dX9_isRegularOne_0 rfl
theorem zdT_dX9_decomposition_0 : zdch cX9_decomposition [(0, (.aload_n 0, 1)), (1, (.iload_n 1, 1)), (2, (.invokevirtual 287, 3)), (5, (.ifCond .eq 30, 3)), (8, (.aload_n 0, 1)), (9, (.iload_n 2, 1)), (10, (.invokevirtual 303, 3)), (13, (.ifCond .eq 22, 3)), (16, (.aload_n 0, 1)), (17, (.getfield 99, 3)), (20, (.bipush 11, 2)), (22, (.iload_n 1, 1)), (23, (.imul, 1)), (24, (.aload_n 0, 1)), (25, (.getfield 32, 3)), (28, (.iload_n 2, 1)), (29, (.iaload, 1)), (30, (.iadd, 1)), (31, (.iaload, 1)), (32, (.goto 4, 3)), (35, (.iconst (-1), 1)), (36, (.ireturn, 1))] = true := by decide +kernel
theorem dX9_decomposition_0 : decode cX9_decomposition 0 = .ok (.aload_n 0, 1) := zdcg 0 zdT_dX9_decomposition_0 rfl
theorem dX9_decomposition_1 : decode cX9_decomposition 1 = .ok (.iload_n 1, 1) := zdcg 1 zdT_dX9_decomposition_0 rfl
theorem dX9_decomposition_2 : decode cX9_decomposition 2 = .ok (.invokevirtual 287, 3) := zdcg 2 zdT_dX9_decomposition_0 rfl
theorem dX9_decomposition_5 : decode cX9_decomposition 5 = .ok (.ifCond .eq 30, 3) := zdcg 3 zdT_dX9_decomposition_0 rfl
theorem dX9_decomposition_8 : decode cX9_decomposition 8 = .ok (.aload_n 0, 1) := zdcg 4 zdT_dX9_decomposition_0 rfl
theorem dX9_decomposition_9 : decode cX9_decomposition 9 = .ok (.iload_n 2, 1) := zdcg 5 zdT_dX9_decomposition_0 rfl
theorem dX9_decomposition_10 : decode cX9_decomposition 10 = .ok (.invokevirtual 303, 3) := zdcg 6 zdT_dX9_decomposition_0 rfl
theorem dX9_decomposition_13 : decode cX9_decomposition 13 = .ok (.ifCond .eq 22, 3) := zdcg 7 zdT_dX9_decomposition_0 rfl
theorem dX9_decomposition_16 : decode cX9_decomposition 16 = .ok (.aload_n 0, 1) := zdcg 8 zdT_dX9_decomposition_0 rfl
theorem dX9_decomposition_17 : decode cX9_decomposition 17 = .ok (.getfield 99, 3) := zdcg 9 zdT_dX9_decomposition_0 rfl
theorem dX9_decomposition_20 : decode cX9_decomposition 20 = .ok (.bipush 11, 2) := zdcg 10 zdT_dX9_decomposition_0 rfl
theorem dX9_decomposition_22 : decode cX9_decomposition 22 = .ok (.iload_n 1, 1) := zdcg 11 zdT_dX9_decomposition_0 rfl
theorem dX9_decomposition_23 : decode cX9_decomposition 23 = .ok (.imul, 1) := zdcg 12 zdT_dX9_decomposition_0 rfl
theorem dX9_decomposition_24 : decode cX9_decomposition 24 = .ok (.aload_n 0, 1) := zdcg 13 zdT_dX9_decomposition_0 rfl
theorem dX9_decomposition_25 : decode cX9_decomposition 25 = .ok (.getfield 32, 3) := zdcg 14 zdT_dX9_decomposition_0 rfl
theorem dX9_decomposition_28 : decode cX9_decomposition 28 = .ok (.iload_n 2, 1) := zdcg 15 zdT_dX9_decomposition_0 rfl
theorem dX9_decomposition_29 : decode cX9_decomposition 29 = .ok (.iaload, 1) := zdcg 16 zdT_dX9_decomposition_0 rfl
theorem dX9_decomposition_30 : decode cX9_decomposition 30 = .ok (.iadd, 1) := zdcg 17 zdT_dX9_decomposition_0 rfl
theorem dX9_decomposition_31 : decode cX9_decomposition 31 = .ok (.iaload, 1) := zdcg 18 zdT_dX9_decomposition_0 rfl
theorem dX9_decomposition_32 : decode cX9_decomposition 32 = .ok (.goto 4, 3) := zdcg 19 zdT_dX9_decomposition_0 rfl
theorem dX9_decomposition_35 : decode cX9_decomposition 35 = .ok (.iconst (-1), 1) := zdcg 20 zdT_dX9_decomposition_0 rfl
theorem dX9_decomposition_36 : decode cX9_decomposition 36 = .ok (.ireturn, 1) := zdcg 21 zdT_dX9_decomposition_0 rfl
theorem zdT_dX9_cartanOf_0 : zdch cX9_cartanOf [(0, (.iconst 0, 1)), (1, (.istore_n 3, 1)), (2, (.iconst 0, 1)), (3, (.istore 4, 2)), (5, (.iload 4, 2)), (7, (.aload_n 0, 1)), (8, (.getfield 153, 3)), (11, (.if_icmp .ge 47, 3)), (14, (.iload_n 3, 1)), (15, (.aload_n 0, 1)), (16, (.getfield 99, 3)), (19, (.bipush 11, 2)), (21, (.iload 4, 2)), (23, (.imul, 1)), (24, (.aload_n 0, 1)), (25, (.getfield 32, 3)), (28, (.iload_n 1, 1)), (29, (.iaload, 1)), (30, (.iadd, 1)), (31, (.iaload, 1)), (32, (.aload_n 0, 1)), (33, (.getfield 99, 3)), (36, (.bipush 11, 2)), (38, (.iload 4, 2)), (40, (.imul, 1))] = true := by decide +kernel
theorem dX9_cartanOf_0 : decode cX9_cartanOf 0 = .ok (.iconst 0, 1) := zdcg 0 zdT_dX9_cartanOf_0 rfl
theorem dX9_cartanOf_1 : decode cX9_cartanOf 1 = .ok (.istore_n 3, 1) := zdcg 1 zdT_dX9_cartanOf_0 rfl
theorem dX9_cartanOf_2 : decode cX9_cartanOf 2 = .ok (.iconst 0, 1) := zdcg 2 zdT_dX9_cartanOf_0 rfl
theorem dX9_cartanOf_3 : decode cX9_cartanOf 3 = .ok (.istore 4, 2) := zdcg 3 zdT_dX9_cartanOf_0 rfl
theorem dX9_cartanOf_5 : decode cX9_cartanOf 5 = .ok (.iload 4, 2) := zdcg 4 zdT_dX9_cartanOf_0 rfl
theorem dX9_cartanOf_7 : decode cX9_cartanOf 7 = .ok (.aload_n 0, 1) := zdcg 5 zdT_dX9_cartanOf_0 rfl
theorem dX9_cartanOf_8 : decode cX9_cartanOf 8 = .ok (.getfield 153, 3) := zdcg 6 zdT_dX9_cartanOf_0 rfl
theorem dX9_cartanOf_11 : decode cX9_cartanOf 11 = .ok (.if_icmp .ge 47, 3) := zdcg 7 zdT_dX9_cartanOf_0 rfl
theorem dX9_cartanOf_14 : decode cX9_cartanOf 14 = .ok (.iload_n 3, 1) := zdcg 8 zdT_dX9_cartanOf_0 rfl
theorem dX9_cartanOf_15 : decode cX9_cartanOf 15 = .ok (.aload_n 0, 1) := zdcg 9 zdT_dX9_cartanOf_0 rfl
theorem dX9_cartanOf_16 : decode cX9_cartanOf 16 = .ok (.getfield 99, 3) := zdcg 10 zdT_dX9_cartanOf_0 rfl
theorem dX9_cartanOf_19 : decode cX9_cartanOf 19 = .ok (.bipush 11, 2) := zdcg 11 zdT_dX9_cartanOf_0 rfl
theorem dX9_cartanOf_21 : decode cX9_cartanOf 21 = .ok (.iload 4, 2) := zdcg 12 zdT_dX9_cartanOf_0 rfl
theorem dX9_cartanOf_23 : decode cX9_cartanOf 23 = .ok (.imul, 1) := zdcg 13 zdT_dX9_cartanOf_0 rfl
theorem dX9_cartanOf_24 : decode cX9_cartanOf 24 = .ok (.aload_n 0, 1) := zdcg 14 zdT_dX9_cartanOf_0 rfl
theorem dX9_cartanOf_25 : decode cX9_cartanOf 25 = .ok (.getfield 32, 3) := zdcg 15 zdT_dX9_cartanOf_0 rfl
theorem dX9_cartanOf_28 : decode cX9_cartanOf 28 = .ok (.iload_n 1, 1) := zdcg 16 zdT_dX9_cartanOf_0 rfl
theorem dX9_cartanOf_29 : decode cX9_cartanOf 29 = .ok (.iaload, 1) := zdcg 17 zdT_dX9_cartanOf_0 rfl
theorem dX9_cartanOf_30 : decode cX9_cartanOf 30 = .ok (.iadd, 1) := zdcg 18 zdT_dX9_cartanOf_0 rfl
theorem dX9_cartanOf_31 : decode cX9_cartanOf 31 = .ok (.iaload, 1) := zdcg 19 zdT_dX9_cartanOf_0 rfl
theorem dX9_cartanOf_32 : decode cX9_cartanOf 32 = .ok (.aload_n 0, 1) := zdcg 20 zdT_dX9_cartanOf_0 rfl
theorem dX9_cartanOf_33 : decode cX9_cartanOf 33 = .ok (.getfield 99, 3) := zdcg 21 zdT_dX9_cartanOf_0 rfl
theorem dX9_cartanOf_36 : decode cX9_cartanOf 36 = .ok (.bipush 11, 2) := zdcg 22 zdT_dX9_cartanOf_0 rfl
theorem dX9_cartanOf_38 : decode cX9_cartanOf 38 = .ok (.iload 4, 2) := zdcg 23 zdT_dX9_cartanOf_0 rfl
theorem dX9_cartanOf_40 : decode cX9_cartanOf 40 = .ok (.imul, 1) := zdcg 24 zdT_dX9_cartanOf_0 rfl
theorem zdT_dX9_cartanOf_41 : zdch cX9_cartanOf [(41, (.aload_n 0, 1)), (42, (.getfield 32, 3)), (45, (.iload_n 2, 1)), (46, (.iaload, 1)), (47, (.iadd, 1)), (48, (.iaload, 1)), (49, (.imul, 1)), (50, (.iadd, 1)), (51, (.istore_n 3, 1)), (52, (.iinc 4 1, 3)), (55, (.goto (-50), 3)), (58, (.iload_n 3, 1)), (59, (.ireturn, 1))] = true := by decide +kernel
theorem dX9_cartanOf_41 : decode cX9_cartanOf 41 = .ok (.aload_n 0, 1) := zdcg 0 zdT_dX9_cartanOf_41 rfl
theorem dX9_cartanOf_42 : decode cX9_cartanOf 42 = .ok (.getfield 32, 3) := zdcg 1 zdT_dX9_cartanOf_41 rfl
theorem dX9_cartanOf_45 : decode cX9_cartanOf 45 = .ok (.iload_n 2, 1) := zdcg 2 zdT_dX9_cartanOf_41 rfl
theorem dX9_cartanOf_46 : decode cX9_cartanOf 46 = .ok (.iaload, 1) := zdcg 3 zdT_dX9_cartanOf_41 rfl
theorem dX9_cartanOf_47 : decode cX9_cartanOf 47 = .ok (.iadd, 1) := zdcg 4 zdT_dX9_cartanOf_41 rfl
theorem dX9_cartanOf_48 : decode cX9_cartanOf 48 = .ok (.iaload, 1) := zdcg 5 zdT_dX9_cartanOf_41 rfl
theorem dX9_cartanOf_49 : decode cX9_cartanOf 49 = .ok (.imul, 1) := zdcg 6 zdT_dX9_cartanOf_41 rfl
theorem dX9_cartanOf_50 : decode cX9_cartanOf 50 = .ok (.iadd, 1) := zdcg 7 zdT_dX9_cartanOf_41 rfl
theorem dX9_cartanOf_51 : decode cX9_cartanOf 51 = .ok (.istore_n 3, 1) := zdcg 8 zdT_dX9_cartanOf_41 rfl
theorem dX9_cartanOf_52 : decode cX9_cartanOf 52 = .ok (.iinc 4 1, 3) := zdcg 9 zdT_dX9_cartanOf_41 rfl
theorem dX9_cartanOf_55 : decode cX9_cartanOf 55 = .ok (.goto (-50), 3) := zdcg 10 zdT_dX9_cartanOf_41 rfl
theorem dX9_cartanOf_58 : decode cX9_cartanOf 58 = .ok (.iload_n 3, 1) := zdcg 11 zdT_dX9_cartanOf_41 rfl
theorem dX9_cartanOf_59 : decode cX9_cartanOf 59 = .ok (.ireturn, 1) := zdcg 12 zdT_dX9_cartanOf_41 rfl
theorem zdT_dX9_cartan_0 : zdch cX9_cartan [(0, (.aload_n 0, 1)), (1, (.iload_n 1, 1)), (2, (.invokevirtual 303, 3)), (5, (.ifCond .eq 20, 3)), (8, (.aload_n 0, 1)), (9, (.iload_n 2, 1)), (10, (.invokevirtual 303, 3)), (13, (.ifCond .eq 12, 3)), (16, (.aload_n 0, 1)), (17, (.iload_n 1, 1)), (18, (.iload_n 2, 1)), (19, (.invokevirtual 306, 3)), (22, (.goto 4, 3)), (25, (.iconst (-1), 1)), (26, (.ireturn, 1))] = true := by decide +kernel
theorem dX9_cartan_0 : decode cX9_cartan 0 = .ok (.aload_n 0, 1) := zdcg 0 zdT_dX9_cartan_0 rfl
theorem dX9_cartan_1 : decode cX9_cartan 1 = .ok (.iload_n 1, 1) := zdcg 1 zdT_dX9_cartan_0 rfl
theorem dX9_cartan_2 : decode cX9_cartan 2 = .ok (.invokevirtual 303, 3) := zdcg 2 zdT_dX9_cartan_0 rfl
theorem dX9_cartan_5 : decode cX9_cartan 5 = .ok (.ifCond .eq 20, 3) := zdcg 3 zdT_dX9_cartan_0 rfl
theorem dX9_cartan_8 : decode cX9_cartan 8 = .ok (.aload_n 0, 1) := zdcg 4 zdT_dX9_cartan_0 rfl
theorem dX9_cartan_9 : decode cX9_cartan 9 = .ok (.iload_n 2, 1) := zdcg 5 zdT_dX9_cartan_0 rfl
theorem dX9_cartan_10 : decode cX9_cartan 10 = .ok (.invokevirtual 303, 3) := zdcg 6 zdT_dX9_cartan_0 rfl
theorem dX9_cartan_13 : decode cX9_cartan 13 = .ok (.ifCond .eq 12, 3) := zdcg 7 zdT_dX9_cartan_0 rfl
theorem dX9_cartan_16 : decode cX9_cartan 16 = .ok (.aload_n 0, 1) := zdcg 8 zdT_dX9_cartan_0 rfl
theorem dX9_cartan_17 : decode cX9_cartan 17 = .ok (.iload_n 1, 1) := zdcg 9 zdT_dX9_cartan_0 rfl
theorem dX9_cartan_18 : decode cX9_cartan 18 = .ok (.iload_n 2, 1) := zdcg 10 zdT_dX9_cartan_0 rfl
theorem dX9_cartan_19 : decode cX9_cartan 19 = .ok (.invokevirtual 306, 3) := zdcg 11 zdT_dX9_cartan_0 rfl
theorem dX9_cartan_22 : decode cX9_cartan 22 = .ok (.goto 4, 3) := zdcg 12 zdT_dX9_cartan_0 rfl
theorem dX9_cartan_25 : decode cX9_cartan 25 = .ok (.iconst (-1), 1) := zdcg 13 zdT_dX9_cartan_0 rfl
theorem dX9_cartan_26 : decode cX9_cartan 26 = .ok (.ireturn, 1) := zdcg 14 zdT_dX9_cartan_0 rfl
theorem zdT_dX9_tableau_0 : zdch cX9_tableau [(0, (.aload_n 0, 1)), (1, (.iload_n 1, 1)), (2, (.invokevirtual 287, 3)), (5, (.ifCond .ne 5, 3)), (8, (.iconst (-1), 1)), (9, (.ireturn, 1)), (10, (.iload_n 3, 1)), (11, (.iconst (-1), 1)), (12, (.if_icmp .ne 10, 3)), (15, (.aload_n 0, 1)), (16, (.getfield 56, 3)), (19, (.iload_n 1, 1)), (20, (.iaload, 1)), (21, (.ireturn, 1)), (22, (.iload_n 2, 1)), (23, (.i2l, 1)), (24, (.lconst 0, 1)), (25, (.aload_n 0, 1)), (26, (.getfield 56, 3)), (29, (.iload_n 1, 1)), (30, (.iaload, 1)), (31, (.iconst 1, 1)), (32, (.isub, 1)), (33, (.i2l, 1)), (34, (.invokestatic 283, 3))] = true := by decide +kernel
theorem dX9_tableau_0 : decode cX9_tableau 0 = .ok (.aload_n 0, 1) := zdcg 0 zdT_dX9_tableau_0 rfl
theorem dX9_tableau_1 : decode cX9_tableau 1 = .ok (.iload_n 1, 1) := zdcg 1 zdT_dX9_tableau_0 rfl
theorem dX9_tableau_2 : decode cX9_tableau 2 = .ok (.invokevirtual 287, 3) := zdcg 2 zdT_dX9_tableau_0 rfl
theorem dX9_tableau_5 : decode cX9_tableau 5 = .ok (.ifCond .ne 5, 3) := zdcg 3 zdT_dX9_tableau_0 rfl
theorem dX9_tableau_8 : decode cX9_tableau 8 = .ok (.iconst (-1), 1) := zdcg 4 zdT_dX9_tableau_0 rfl
theorem dX9_tableau_9 : decode cX9_tableau 9 = .ok (.ireturn, 1) := zdcg 5 zdT_dX9_tableau_0 rfl
theorem dX9_tableau_10 : decode cX9_tableau 10 = .ok (.iload_n 3, 1) := zdcg 6 zdT_dX9_tableau_0 rfl
theorem dX9_tableau_11 : decode cX9_tableau 11 = .ok (.iconst (-1), 1) := zdcg 7 zdT_dX9_tableau_0 rfl
theorem dX9_tableau_12 : decode cX9_tableau 12 = .ok (.if_icmp .ne 10, 3) := zdcg 8 zdT_dX9_tableau_0 rfl
theorem dX9_tableau_15 : decode cX9_tableau 15 = .ok (.aload_n 0, 1) := zdcg 9 zdT_dX9_tableau_0 rfl
theorem dX9_tableau_16 : decode cX9_tableau 16 = .ok (.getfield 56, 3) := zdcg 10 zdT_dX9_tableau_0 rfl
theorem dX9_tableau_19 : decode cX9_tableau 19 = .ok (.iload_n 1, 1) := zdcg 11 zdT_dX9_tableau_0 rfl
theorem dX9_tableau_20 : decode cX9_tableau 20 = .ok (.iaload, 1) := zdcg 12 zdT_dX9_tableau_0 rfl
theorem dX9_tableau_21 : decode cX9_tableau 21 = .ok (.ireturn, 1) := zdcg 13 zdT_dX9_tableau_0 rfl
theorem dX9_tableau_22 : decode cX9_tableau 22 = .ok (.iload_n 2, 1) := zdcg 14 zdT_dX9_tableau_0 rfl
theorem dX9_tableau_23 : decode cX9_tableau 23 = .ok (.i2l, 1) := zdcg 15 zdT_dX9_tableau_0 rfl
theorem dX9_tableau_24 : decode cX9_tableau 24 = .ok (.lconst 0, 1) := zdcg 16 zdT_dX9_tableau_0 rfl
theorem dX9_tableau_25 : decode cX9_tableau 25 = .ok (.aload_n 0, 1) := zdcg 17 zdT_dX9_tableau_0 rfl
theorem dX9_tableau_26 : decode cX9_tableau 26 = .ok (.getfield 56, 3) := zdcg 18 zdT_dX9_tableau_0 rfl
theorem dX9_tableau_29 : decode cX9_tableau 29 = .ok (.iload_n 1, 1) := zdcg 19 zdT_dX9_tableau_0 rfl
theorem dX9_tableau_30 : decode cX9_tableau 30 = .ok (.iaload, 1) := zdcg 20 zdT_dX9_tableau_0 rfl
theorem dX9_tableau_31 : decode cX9_tableau 31 = .ok (.iconst 1, 1) := zdcg 21 zdT_dX9_tableau_0 rfl
theorem dX9_tableau_32 : decode cX9_tableau 32 = .ok (.isub, 1) := zdcg 22 zdT_dX9_tableau_0 rfl
theorem dX9_tableau_33 : decode cX9_tableau 33 = .ok (.i2l, 1) := zdcg 23 zdT_dX9_tableau_0 rfl
theorem dX9_tableau_34 : decode cX9_tableau 34 = .ok (.invokestatic 283, 3) := zdcg 24 zdT_dX9_tableau_0 rfl
theorem zdT_dX9_tableau_37 : zdch cX9_tableau [(37, (.ifCond .eq 34, 3)), (40, (.iload_n 3, 1)), (41, (.i2l, 1)), (42, (.lconst 0, 1)), (43, (.ldc2_w 301, 3)), (46, (.invokestatic 283, 3)), (49, (.ifCond .eq 22, 3)), (52, (.iload 4, 2)), (54, (.i2l, 1)), (55, (.lconst 0, 1)), (56, (.aload_n 0, 1)), (57, (.iload_n 1, 1)), (58, (.iload_n 3, 1)), (59, (.invokevirtual 175, 3)), (62, (.iconst 1, 1)), (63, (.isub, 1)), (64, (.i2l, 1)), (65, (.invokestatic 283, 3)), (68, (.ifCond .ne 5, 3)), (71, (.iconst (-1), 1)), (72, (.ireturn, 1)), (73, (.aload_n 0, 1)), (74, (.iload_n 1, 1)), (75, (.putfield 205, 3)), (78, (.aload_n 0, 1))] = true := by decide +kernel
theorem dX9_tableau_37 : decode cX9_tableau 37 = .ok (.ifCond .eq 34, 3) := zdcg 0 zdT_dX9_tableau_37 rfl
theorem dX9_tableau_40 : decode cX9_tableau 40 = .ok (.iload_n 3, 1) := zdcg 1 zdT_dX9_tableau_37 rfl
theorem dX9_tableau_41 : decode cX9_tableau 41 = .ok (.i2l, 1) := zdcg 2 zdT_dX9_tableau_37 rfl
theorem dX9_tableau_42 : decode cX9_tableau 42 = .ok (.lconst 0, 1) := zdcg 3 zdT_dX9_tableau_37 rfl
theorem dX9_tableau_43 : decode cX9_tableau 43 = .ok (.ldc2_w 301, 3) := zdcg 4 zdT_dX9_tableau_37 rfl
theorem dX9_tableau_46 : decode cX9_tableau 46 = .ok (.invokestatic 283, 3) := zdcg 5 zdT_dX9_tableau_37 rfl
theorem dX9_tableau_49 : decode cX9_tableau 49 = .ok (.ifCond .eq 22, 3) := zdcg 6 zdT_dX9_tableau_37 rfl
theorem dX9_tableau_52 : decode cX9_tableau 52 = .ok (.iload 4, 2) := zdcg 7 zdT_dX9_tableau_37 rfl
theorem dX9_tableau_54 : decode cX9_tableau 54 = .ok (.i2l, 1) := zdcg 8 zdT_dX9_tableau_37 rfl
theorem dX9_tableau_55 : decode cX9_tableau 55 = .ok (.lconst 0, 1) := zdcg 9 zdT_dX9_tableau_37 rfl
theorem dX9_tableau_56 : decode cX9_tableau 56 = .ok (.aload_n 0, 1) := zdcg 10 zdT_dX9_tableau_37 rfl
theorem dX9_tableau_57 : decode cX9_tableau 57 = .ok (.iload_n 1, 1) := zdcg 11 zdT_dX9_tableau_37 rfl
theorem dX9_tableau_58 : decode cX9_tableau 58 = .ok (.iload_n 3, 1) := zdcg 12 zdT_dX9_tableau_37 rfl
theorem dX9_tableau_59 : decode cX9_tableau 59 = .ok (.invokevirtual 175, 3) := zdcg 13 zdT_dX9_tableau_37 rfl
theorem dX9_tableau_62 : decode cX9_tableau 62 = .ok (.iconst 1, 1) := zdcg 14 zdT_dX9_tableau_37 rfl
theorem dX9_tableau_63 : decode cX9_tableau 63 = .ok (.isub, 1) := zdcg 15 zdT_dX9_tableau_37 rfl
theorem dX9_tableau_64 : decode cX9_tableau 64 = .ok (.i2l, 1) := zdcg 16 zdT_dX9_tableau_37 rfl
theorem dX9_tableau_65 : decode cX9_tableau 65 = .ok (.invokestatic 283, 3) := zdcg 17 zdT_dX9_tableau_37 rfl
theorem dX9_tableau_68 : decode cX9_tableau 68 = .ok (.ifCond .ne 5, 3) := zdcg 18 zdT_dX9_tableau_37 rfl
theorem dX9_tableau_71 : decode cX9_tableau 71 = .ok (.iconst (-1), 1) := zdcg 19 zdT_dX9_tableau_37 rfl
theorem dX9_tableau_72 : decode cX9_tableau 72 = .ok (.ireturn, 1) := zdcg 20 zdT_dX9_tableau_37 rfl
theorem dX9_tableau_73 : decode cX9_tableau 73 = .ok (.aload_n 0, 1) := zdcg 21 zdT_dX9_tableau_37 rfl
theorem dX9_tableau_74 : decode cX9_tableau 74 = .ok (.iload_n 1, 1) := zdcg 22 zdT_dX9_tableau_37 rfl
theorem dX9_tableau_75 : decode cX9_tableau 75 = .ok (.putfield 205, 3) := zdcg 23 zdT_dX9_tableau_37 rfl
theorem dX9_tableau_78 : decode cX9_tableau 78 = .ok (.aload_n 0, 1) := zdcg 24 zdT_dX9_tableau_37 rfl
theorem zdT_dX9_tableau_79 : zdch cX9_tableau [(79, (.getfield 59, 3)), (82, (.bipush 6, 2)), (84, (.aload_n 0, 1)), (85, (.getfield 53, 3)), (88, (.iload_n 1, 1)), (89, (.iaload, 1)), (90, (.iload_n 2, 1)), (91, (.iadd, 1)), (92, (.imul, 1)), (93, (.aload_n 0, 1)), (94, (.iload_n 3, 1)), (95, (.iload 4, 2)), (97, (.invokevirtual 214, 3)), (100, (.iadd, 1)), (101, (.iaload, 1)), (102, (.ireturn, 1))] = true := by decide +kernel
theorem dX9_tableau_79 : decode cX9_tableau 79 = .ok (.getfield 59, 3) := zdcg 0 zdT_dX9_tableau_79 rfl
theorem dX9_tableau_82 : decode cX9_tableau 82 = .ok (.bipush 6, 2) := zdcg 1 zdT_dX9_tableau_79 rfl
theorem dX9_tableau_84 : decode cX9_tableau 84 = .ok (.aload_n 0, 1) := zdcg 2 zdT_dX9_tableau_79 rfl
theorem dX9_tableau_85 : decode cX9_tableau 85 = .ok (.getfield 53, 3) := zdcg 3 zdT_dX9_tableau_79 rfl
theorem dX9_tableau_88 : decode cX9_tableau 88 = .ok (.iload_n 1, 1) := zdcg 4 zdT_dX9_tableau_79 rfl
theorem dX9_tableau_89 : decode cX9_tableau 89 = .ok (.iaload, 1) := zdcg 5 zdT_dX9_tableau_79 rfl
theorem dX9_tableau_90 : decode cX9_tableau 90 = .ok (.iload_n 2, 1) := zdcg 6 zdT_dX9_tableau_79 rfl
theorem dX9_tableau_91 : decode cX9_tableau 91 = .ok (.iadd, 1) := zdcg 7 zdT_dX9_tableau_79 rfl
theorem dX9_tableau_92 : decode cX9_tableau 92 = .ok (.imul, 1) := zdcg 8 zdT_dX9_tableau_79 rfl
theorem dX9_tableau_93 : decode cX9_tableau 93 = .ok (.aload_n 0, 1) := zdcg 9 zdT_dX9_tableau_79 rfl
theorem dX9_tableau_94 : decode cX9_tableau 94 = .ok (.iload_n 3, 1) := zdcg 10 zdT_dX9_tableau_79 rfl
theorem dX9_tableau_95 : decode cX9_tableau 95 = .ok (.iload 4, 2) := zdcg 11 zdT_dX9_tableau_79 rfl
theorem dX9_tableau_97 : decode cX9_tableau 97 = .ok (.invokevirtual 214, 3) := zdcg 12 zdT_dX9_tableau_79 rfl
theorem dX9_tableau_100 : decode cX9_tableau 100 = .ok (.iadd, 1) := zdcg 13 zdT_dX9_tableau_79 rfl
theorem dX9_tableau_101 : decode cX9_tableau 101 = .ok (.iaload, 1) := zdcg 14 zdT_dX9_tableau_79 rfl
theorem dX9_tableau_102 : decode cX9_tableau 102 = .ok (.ireturn, 1) := zdcg 15 zdT_dX9_tableau_79 rfl
theorem zdT_dX9_gram_0 : zdch cX9_gram [(0, (.aload_n 0, 1)), (1, (.iload_n 1, 1)), (2, (.invokevirtual 287, 3)), (5, (.ifCond .eq 59, 3)), (8, (.iload_n 2, 1)), (9, (.i2l, 1)), (10, (.lconst 0, 1)), (11, (.aload_n 0, 1)), (12, (.getfield 56, 3)), (15, (.iload_n 1, 1)), (16, (.iaload, 1)), (17, (.iconst 1, 1)), (18, (.isub, 1)), (19, (.i2l, 1)), (20, (.invokestatic 283, 3)), (23, (.ifCond .eq 41, 3)), (26, (.iload_n 3, 1)), (27, (.i2l, 1)), (28, (.lconst 0, 1)), (29, (.aload_n 0, 1)), (30, (.getfield 56, 3)), (33, (.iload_n 1, 1)), (34, (.iaload, 1)), (35, (.iconst 1, 1)), (36, (.isub, 1))] = true := by decide +kernel
theorem dX9_gram_0 : decode cX9_gram 0 = .ok (.aload_n 0, 1) := zdcg 0 zdT_dX9_gram_0 rfl
theorem dX9_gram_1 : decode cX9_gram 1 = .ok (.iload_n 1, 1) := zdcg 1 zdT_dX9_gram_0 rfl
theorem dX9_gram_2 : decode cX9_gram 2 = .ok (.invokevirtual 287, 3) := zdcg 2 zdT_dX9_gram_0 rfl
theorem dX9_gram_5 : decode cX9_gram 5 = .ok (.ifCond .eq 59, 3) := zdcg 3 zdT_dX9_gram_0 rfl
theorem dX9_gram_8 : decode cX9_gram 8 = .ok (.iload_n 2, 1) := zdcg 4 zdT_dX9_gram_0 rfl
theorem dX9_gram_9 : decode cX9_gram 9 = .ok (.i2l, 1) := zdcg 5 zdT_dX9_gram_0 rfl
theorem dX9_gram_10 : decode cX9_gram 10 = .ok (.lconst 0, 1) := zdcg 6 zdT_dX9_gram_0 rfl
theorem dX9_gram_11 : decode cX9_gram 11 = .ok (.aload_n 0, 1) := zdcg 7 zdT_dX9_gram_0 rfl
theorem dX9_gram_12 : decode cX9_gram 12 = .ok (.getfield 56, 3) := zdcg 8 zdT_dX9_gram_0 rfl
theorem dX9_gram_15 : decode cX9_gram 15 = .ok (.iload_n 1, 1) := zdcg 9 zdT_dX9_gram_0 rfl
theorem dX9_gram_16 : decode cX9_gram 16 = .ok (.iaload, 1) := zdcg 10 zdT_dX9_gram_0 rfl
theorem dX9_gram_17 : decode cX9_gram 17 = .ok (.iconst 1, 1) := zdcg 11 zdT_dX9_gram_0 rfl
theorem dX9_gram_18 : decode cX9_gram 18 = .ok (.isub, 1) := zdcg 12 zdT_dX9_gram_0 rfl
theorem dX9_gram_19 : decode cX9_gram 19 = .ok (.i2l, 1) := zdcg 13 zdT_dX9_gram_0 rfl
theorem dX9_gram_20 : decode cX9_gram 20 = .ok (.invokestatic 283, 3) := zdcg 14 zdT_dX9_gram_0 rfl
theorem dX9_gram_23 : decode cX9_gram 23 = .ok (.ifCond .eq 41, 3) := zdcg 15 zdT_dX9_gram_0 rfl
theorem dX9_gram_26 : decode cX9_gram 26 = .ok (.iload_n 3, 1) := zdcg 16 zdT_dX9_gram_0 rfl
theorem dX9_gram_27 : decode cX9_gram 27 = .ok (.i2l, 1) := zdcg 17 zdT_dX9_gram_0 rfl
theorem dX9_gram_28 : decode cX9_gram 28 = .ok (.lconst 0, 1) := zdcg 18 zdT_dX9_gram_0 rfl
theorem dX9_gram_29 : decode cX9_gram 29 = .ok (.aload_n 0, 1) := zdcg 19 zdT_dX9_gram_0 rfl
theorem dX9_gram_30 : decode cX9_gram 30 = .ok (.getfield 56, 3) := zdcg 20 zdT_dX9_gram_0 rfl
theorem dX9_gram_33 : decode cX9_gram 33 = .ok (.iload_n 1, 1) := zdcg 21 zdT_dX9_gram_0 rfl
theorem dX9_gram_34 : decode cX9_gram 34 = .ok (.iaload, 1) := zdcg 22 zdT_dX9_gram_0 rfl
theorem dX9_gram_35 : decode cX9_gram 35 = .ok (.iconst 1, 1) := zdcg 23 zdT_dX9_gram_0 rfl
theorem dX9_gram_36 : decode cX9_gram 36 = .ok (.isub, 1) := zdcg 24 zdT_dX9_gram_0 rfl
theorem zdT_dX9_gram_37 : zdch cX9_gram [(37, (.i2l, 1)), (38, (.invokestatic 283, 3)), (41, (.ifCond .eq 23, 3)), (44, (.aload_n 0, 1)), (45, (.getfield 90, 3)), (48, (.sipush 256, 3)), (51, (.iload_n 1, 1)), (52, (.imul, 1)), (53, (.bipush 16, 2)), (55, (.iload_n 2, 1)), (56, (.imul, 1)), (57, (.iadd, 1)), (58, (.iload_n 3, 1)), (59, (.iadd, 1)), (60, (.iaload, 1)), (61, (.goto 6, 3)), (64, (.sipush (-1001), 3)), (67, (.ireturn, 1))] = true := by decide +kernel
theorem dX9_gram_37 : decode cX9_gram 37 = .ok (.i2l, 1) := zdcg 0 zdT_dX9_gram_37 rfl
theorem dX9_gram_38 : decode cX9_gram 38 = .ok (.invokestatic 283, 3) := zdcg 1 zdT_dX9_gram_37 rfl
theorem dX9_gram_41 : decode cX9_gram 41 = .ok (.ifCond .eq 23, 3) := zdcg 2 zdT_dX9_gram_37 rfl
theorem dX9_gram_44 : decode cX9_gram 44 = .ok (.aload_n 0, 1) := zdcg 3 zdT_dX9_gram_37 rfl
theorem dX9_gram_45 : decode cX9_gram 45 = .ok (.getfield 90, 3) := zdcg 4 zdT_dX9_gram_37 rfl
theorem dX9_gram_48 : decode cX9_gram 48 = .ok (.sipush 256, 3) := zdcg 5 zdT_dX9_gram_37 rfl
theorem dX9_gram_51 : decode cX9_gram 51 = .ok (.iload_n 1, 1) := zdcg 6 zdT_dX9_gram_37 rfl
theorem dX9_gram_52 : decode cX9_gram 52 = .ok (.imul, 1) := zdcg 7 zdT_dX9_gram_37 rfl
theorem dX9_gram_53 : decode cX9_gram 53 = .ok (.bipush 16, 2) := zdcg 8 zdT_dX9_gram_37 rfl
theorem dX9_gram_55 : decode cX9_gram 55 = .ok (.iload_n 2, 1) := zdcg 9 zdT_dX9_gram_37 rfl
theorem dX9_gram_56 : decode cX9_gram 56 = .ok (.imul, 1) := zdcg 10 zdT_dX9_gram_37 rfl
theorem dX9_gram_57 : decode cX9_gram 57 = .ok (.iadd, 1) := zdcg 11 zdT_dX9_gram_37 rfl
theorem dX9_gram_58 : decode cX9_gram 58 = .ok (.iload_n 3, 1) := zdcg 12 zdT_dX9_gram_37 rfl
theorem dX9_gram_59 : decode cX9_gram 59 = .ok (.iadd, 1) := zdcg 13 zdT_dX9_gram_37 rfl
theorem dX9_gram_60 : decode cX9_gram 60 = .ok (.iaload, 1) := zdcg 14 zdT_dX9_gram_37 rfl
theorem dX9_gram_61 : decode cX9_gram 61 = .ok (.goto 6, 3) := zdcg 15 zdT_dX9_gram_37 rfl
theorem dX9_gram_64 : decode cX9_gram 64 = .ok (.sipush (-1001), 3) := zdcg 16 zdT_dX9_gram_37 rfl
theorem dX9_gram_67 : decode cX9_gram 67 = .ok (.ireturn, 1) := zdcg 17 zdT_dX9_gram_37 rfl
theorem zdT_dX9_membersOf_0 : zdch cX9_membersOf [(0, (.iconst 0, 1)), (1, (.istore_n 2, 1)), (2, (.iconst 0, 1)), (3, (.istore_n 3, 1)), (4, (.iload_n 3, 1)), (5, (.aload_n 0, 1)), (6, (.getfield 153, 3)), (9, (.if_icmp .ge 41, 3)), (12, (.aload_n 0, 1)), (13, (.getfield 47, 3)), (16, (.iload_n 3, 1)), (17, (.iaload, 1)), (18, (.iload_n 1, 1)), (19, (.if_icmp .ne 25, 3)), (22, (.aload_n 0, 1)), (23, (.getfield 22, 3)), (26, (.iload_n 3, 1)), (27, (.baload, 1)), (28, (.ifCond .ne 6, 3)), (31, (.goto 13, 3)), (34, (.aload_n 0, 1)), (35, (.getfield 112, 3)), (38, (.iload_n 2, 1)), (39, (.iload_n 3, 1)), (40, (.iastore, 1))] = true := by decide +kernel
theorem dX9_membersOf_0 : decode cX9_membersOf 0 = .ok (.iconst 0, 1) := zdcg 0 zdT_dX9_membersOf_0 rfl
theorem dX9_membersOf_1 : decode cX9_membersOf 1 = .ok (.istore_n 2, 1) := zdcg 1 zdT_dX9_membersOf_0 rfl
theorem dX9_membersOf_2 : decode cX9_membersOf 2 = .ok (.iconst 0, 1) := zdcg 2 zdT_dX9_membersOf_0 rfl
theorem dX9_membersOf_3 : decode cX9_membersOf 3 = .ok (.istore_n 3, 1) := zdcg 3 zdT_dX9_membersOf_0 rfl
theorem dX9_membersOf_4 : decode cX9_membersOf 4 = .ok (.iload_n 3, 1) := zdcg 4 zdT_dX9_membersOf_0 rfl
theorem dX9_membersOf_5 : decode cX9_membersOf 5 = .ok (.aload_n 0, 1) := zdcg 5 zdT_dX9_membersOf_0 rfl
theorem dX9_membersOf_6 : decode cX9_membersOf 6 = .ok (.getfield 153, 3) := zdcg 6 zdT_dX9_membersOf_0 rfl
theorem dX9_membersOf_9 : decode cX9_membersOf 9 = .ok (.if_icmp .ge 41, 3) := zdcg 7 zdT_dX9_membersOf_0 rfl
theorem dX9_membersOf_12 : decode cX9_membersOf 12 = .ok (.aload_n 0, 1) := zdcg 8 zdT_dX9_membersOf_0 rfl
theorem dX9_membersOf_13 : decode cX9_membersOf 13 = .ok (.getfield 47, 3) := zdcg 9 zdT_dX9_membersOf_0 rfl
theorem dX9_membersOf_16 : decode cX9_membersOf 16 = .ok (.iload_n 3, 1) := zdcg 10 zdT_dX9_membersOf_0 rfl
theorem dX9_membersOf_17 : decode cX9_membersOf 17 = .ok (.iaload, 1) := zdcg 11 zdT_dX9_membersOf_0 rfl
theorem dX9_membersOf_18 : decode cX9_membersOf 18 = .ok (.iload_n 1, 1) := zdcg 12 zdT_dX9_membersOf_0 rfl
theorem dX9_membersOf_19 : decode cX9_membersOf 19 = .ok (.if_icmp .ne 25, 3) := zdcg 13 zdT_dX9_membersOf_0 rfl
theorem dX9_membersOf_22 : decode cX9_membersOf 22 = .ok (.aload_n 0, 1) := zdcg 14 zdT_dX9_membersOf_0 rfl
theorem dX9_membersOf_23 : decode cX9_membersOf 23 = .ok (.getfield 22, 3) := zdcg 15 zdT_dX9_membersOf_0 rfl
theorem dX9_membersOf_26 : decode cX9_membersOf 26 = .ok (.iload_n 3, 1) := zdcg 16 zdT_dX9_membersOf_0 rfl
theorem dX9_membersOf_27 : decode cX9_membersOf 27 = .ok (.baload, 1) := zdcg 17 zdT_dX9_membersOf_0 rfl
theorem dX9_membersOf_28 : decode cX9_membersOf 28 = .ok (.ifCond .ne 6, 3) := zdcg 18 zdT_dX9_membersOf_0 rfl
theorem dX9_membersOf_31 : decode cX9_membersOf 31 = .ok (.goto 13, 3) := zdcg 19 zdT_dX9_membersOf_0 rfl
theorem dX9_membersOf_34 : decode cX9_membersOf 34 = .ok (.aload_n 0, 1) := zdcg 20 zdT_dX9_membersOf_0 rfl
theorem dX9_membersOf_35 : decode cX9_membersOf 35 = .ok (.getfield 112, 3) := zdcg 21 zdT_dX9_membersOf_0 rfl
theorem dX9_membersOf_38 : decode cX9_membersOf 38 = .ok (.iload_n 2, 1) := zdcg 22 zdT_dX9_membersOf_0 rfl
theorem dX9_membersOf_39 : decode cX9_membersOf 39 = .ok (.iload_n 3, 1) := zdcg 23 zdT_dX9_membersOf_0 rfl
theorem dX9_membersOf_40 : decode cX9_membersOf 40 = .ok (.iastore, 1) := zdcg 24 zdT_dX9_membersOf_0 rfl
theorem zdT_dX9_membersOf_41 : zdch cX9_membersOf [(41, (.iinc 2 1, 3)), (44, (.iinc 3 1, 3)), (47, (.goto (-43), 3)), (50, (.iload_n 2, 1)), (51, (.ireturn, 1))] = true := by decide +kernel
theorem dX9_membersOf_41 : decode cX9_membersOf 41 = .ok (.iinc 2 1, 3) := zdcg 0 zdT_dX9_membersOf_41 rfl
theorem dX9_membersOf_44 : decode cX9_membersOf 44 = .ok (.iinc 3 1, 3) := zdcg 1 zdT_dX9_membersOf_41 rfl
theorem dX9_membersOf_47 : decode cX9_membersOf 47 = .ok (.goto (-43), 3) := zdcg 2 zdT_dX9_membersOf_41 rfl
theorem dX9_membersOf_50 : decode cX9_membersOf 50 = .ok (.iload_n 2, 1) := zdcg 3 zdT_dX9_membersOf_41 rfl
theorem dX9_membersOf_51 : decode cX9_membersOf 51 = .ok (.ireturn, 1) := zdcg 4 zdT_dX9_membersOf_41 rfl
theorem zdT_dX9_determinant_0 : zdch cX9_determinant [(0, (.lconst 1, 1)), (1, (.lstore_n 2, 1)), (2, (.iconst 1, 1)), (3, (.istore 4, 2)), (5, (.iconst 0, 1)), (6, (.istore 5, 2)), (8, (.iload 5, 2)), (10, (.iload_n 1, 1)), (11, (.iconst 1, 1)), (12, (.isub, 1)), (13, (.if_icmp .ge 261, 3)), (16, (.iload 5, 2)), (18, (.istore 6, 2)), (20, (.iload 6, 2)), (22, (.iload_n 1, 1)), (23, (.if_icmp .ge 27, 3)), (26, (.aload_n 0, 1)), (27, (.getfield 108, 3)), (30, (.bipush 11, 2)), (32, (.iload 6, 2)), (34, (.imul, 1)), (35, (.iload 5, 2)), (37, (.iadd, 1)), (38, (.laload, 1)), (39, (.lconst 0, 1))] = true := by decide +kernel
theorem dX9_determinant_0 : decode cX9_determinant 0 = .ok (.lconst 1, 1) := zdcg 0 zdT_dX9_determinant_0 rfl
theorem dX9_determinant_1 : decode cX9_determinant 1 = .ok (.lstore_n 2, 1) := zdcg 1 zdT_dX9_determinant_0 rfl
theorem dX9_determinant_2 : decode cX9_determinant 2 = .ok (.iconst 1, 1) := zdcg 2 zdT_dX9_determinant_0 rfl
theorem dX9_determinant_3 : decode cX9_determinant 3 = .ok (.istore 4, 2) := zdcg 3 zdT_dX9_determinant_0 rfl
theorem dX9_determinant_5 : decode cX9_determinant 5 = .ok (.iconst 0, 1) := zdcg 4 zdT_dX9_determinant_0 rfl
theorem dX9_determinant_6 : decode cX9_determinant 6 = .ok (.istore 5, 2) := zdcg 5 zdT_dX9_determinant_0 rfl
theorem dX9_determinant_8 : decode cX9_determinant 8 = .ok (.iload 5, 2) := zdcg 6 zdT_dX9_determinant_0 rfl
theorem dX9_determinant_10 : decode cX9_determinant 10 = .ok (.iload_n 1, 1) := zdcg 7 zdT_dX9_determinant_0 rfl
theorem dX9_determinant_11 : decode cX9_determinant 11 = .ok (.iconst 1, 1) := zdcg 8 zdT_dX9_determinant_0 rfl
theorem dX9_determinant_12 : decode cX9_determinant 12 = .ok (.isub, 1) := zdcg 9 zdT_dX9_determinant_0 rfl
theorem dX9_determinant_13 : decode cX9_determinant 13 = .ok (.if_icmp .ge 261, 3) := zdcg 10 zdT_dX9_determinant_0 rfl
theorem dX9_determinant_16 : decode cX9_determinant 16 = .ok (.iload 5, 2) := zdcg 11 zdT_dX9_determinant_0 rfl
theorem dX9_determinant_18 : decode cX9_determinant 18 = .ok (.istore 6, 2) := zdcg 12 zdT_dX9_determinant_0 rfl
theorem dX9_determinant_20 : decode cX9_determinant 20 = .ok (.iload 6, 2) := zdcg 13 zdT_dX9_determinant_0 rfl
theorem dX9_determinant_22 : decode cX9_determinant 22 = .ok (.iload_n 1, 1) := zdcg 14 zdT_dX9_determinant_0 rfl
theorem dX9_determinant_23 : decode cX9_determinant 23 = .ok (.if_icmp .ge 27, 3) := zdcg 15 zdT_dX9_determinant_0 rfl
theorem dX9_determinant_26 : decode cX9_determinant 26 = .ok (.aload_n 0, 1) := zdcg 16 zdT_dX9_determinant_0 rfl
theorem dX9_determinant_27 : decode cX9_determinant 27 = .ok (.getfield 108, 3) := zdcg 17 zdT_dX9_determinant_0 rfl
theorem dX9_determinant_30 : decode cX9_determinant 30 = .ok (.bipush 11, 2) := zdcg 18 zdT_dX9_determinant_0 rfl
theorem dX9_determinant_32 : decode cX9_determinant 32 = .ok (.iload 6, 2) := zdcg 19 zdT_dX9_determinant_0 rfl
theorem dX9_determinant_34 : decode cX9_determinant 34 = .ok (.imul, 1) := zdcg 20 zdT_dX9_determinant_0 rfl
theorem dX9_determinant_35 : decode cX9_determinant 35 = .ok (.iload 5, 2) := zdcg 21 zdT_dX9_determinant_0 rfl
theorem dX9_determinant_37 : decode cX9_determinant 37 = .ok (.iadd, 1) := zdcg 22 zdT_dX9_determinant_0 rfl
theorem dX9_determinant_38 : decode cX9_determinant 38 = .ok (.laload, 1) := zdcg 23 zdT_dX9_determinant_0 rfl
theorem dX9_determinant_39 : decode cX9_determinant 39 = .ok (.lconst 0, 1) := zdcg 24 zdT_dX9_determinant_0 rfl
theorem zdT_dX9_determinant_40 : zdch cX9_determinant [(40, (.lcmp, 1)), (41, (.ifCond .ne 9, 3)), (44, (.iinc 6 1, 3)), (47, (.goto (-27), 3)), (50, (.iload 6, 2)), (52, (.iload_n 1, 1)), (53, (.if_icmp .ne 5, 3)), (56, (.lconst 0, 1)), (57, (.lreturn, 1)), (58, (.iconst 0, 1)), (59, (.istore 7, 2)), (61, (.iload 7, 2)), (63, (.iload_n 1, 1)), (64, (.if_icmp .ge 72, 3)), (67, (.iload 6, 2)), (69, (.iload 5, 2)), (71, (.if_icmp .eq 65, 3)), (74, (.aload_n 0, 1)), (75, (.getfield 108, 3)), (78, (.bipush 11, 2)), (80, (.iload 6, 2)), (82, (.imul, 1)), (83, (.iload 7, 2)), (85, (.iadd, 1)), (86, (.laload, 1))] = true := by decide +kernel
theorem dX9_determinant_40 : decode cX9_determinant 40 = .ok (.lcmp, 1) := zdcg 0 zdT_dX9_determinant_40 rfl
theorem dX9_determinant_41 : decode cX9_determinant 41 = .ok (.ifCond .ne 9, 3) := zdcg 1 zdT_dX9_determinant_40 rfl
theorem dX9_determinant_44 : decode cX9_determinant 44 = .ok (.iinc 6 1, 3) := zdcg 2 zdT_dX9_determinant_40 rfl
theorem dX9_determinant_47 : decode cX9_determinant 47 = .ok (.goto (-27), 3) := zdcg 3 zdT_dX9_determinant_40 rfl
theorem dX9_determinant_50 : decode cX9_determinant 50 = .ok (.iload 6, 2) := zdcg 4 zdT_dX9_determinant_40 rfl
theorem dX9_determinant_52 : decode cX9_determinant 52 = .ok (.iload_n 1, 1) := zdcg 5 zdT_dX9_determinant_40 rfl
theorem dX9_determinant_53 : decode cX9_determinant 53 = .ok (.if_icmp .ne 5, 3) := zdcg 6 zdT_dX9_determinant_40 rfl
theorem dX9_determinant_56 : decode cX9_determinant 56 = .ok (.lconst 0, 1) := zdcg 7 zdT_dX9_determinant_40 rfl
theorem dX9_determinant_57 : decode cX9_determinant 57 = .ok (.lreturn, 1) := zdcg 8 zdT_dX9_determinant_40 rfl
theorem dX9_determinant_58 : decode cX9_determinant 58 = .ok (.iconst 0, 1) := zdcg 9 zdT_dX9_determinant_40 rfl
theorem dX9_determinant_59 : decode cX9_determinant 59 = .ok (.istore 7, 2) := zdcg 10 zdT_dX9_determinant_40 rfl
theorem dX9_determinant_61 : decode cX9_determinant 61 = .ok (.iload 7, 2) := zdcg 11 zdT_dX9_determinant_40 rfl
theorem dX9_determinant_63 : decode cX9_determinant 63 = .ok (.iload_n 1, 1) := zdcg 12 zdT_dX9_determinant_40 rfl
theorem dX9_determinant_64 : decode cX9_determinant 64 = .ok (.if_icmp .ge 72, 3) := zdcg 13 zdT_dX9_determinant_40 rfl
theorem dX9_determinant_67 : decode cX9_determinant 67 = .ok (.iload 6, 2) := zdcg 14 zdT_dX9_determinant_40 rfl
theorem dX9_determinant_69 : decode cX9_determinant 69 = .ok (.iload 5, 2) := zdcg 15 zdT_dX9_determinant_40 rfl
theorem dX9_determinant_71 : decode cX9_determinant 71 = .ok (.if_icmp .eq 65, 3) := zdcg 16 zdT_dX9_determinant_40 rfl
theorem dX9_determinant_74 : decode cX9_determinant 74 = .ok (.aload_n 0, 1) := zdcg 17 zdT_dX9_determinant_40 rfl
theorem dX9_determinant_75 : decode cX9_determinant 75 = .ok (.getfield 108, 3) := zdcg 18 zdT_dX9_determinant_40 rfl
theorem dX9_determinant_78 : decode cX9_determinant 78 = .ok (.bipush 11, 2) := zdcg 19 zdT_dX9_determinant_40 rfl
theorem dX9_determinant_80 : decode cX9_determinant 80 = .ok (.iload 6, 2) := zdcg 20 zdT_dX9_determinant_40 rfl
theorem dX9_determinant_82 : decode cX9_determinant 82 = .ok (.imul, 1) := zdcg 21 zdT_dX9_determinant_40 rfl
theorem dX9_determinant_83 : decode cX9_determinant 83 = .ok (.iload 7, 2) := zdcg 22 zdT_dX9_determinant_40 rfl
theorem dX9_determinant_85 : decode cX9_determinant 85 = .ok (.iadd, 1) := zdcg 23 zdT_dX9_determinant_40 rfl
theorem dX9_determinant_86 : decode cX9_determinant 86 = .ok (.laload, 1) := zdcg 24 zdT_dX9_determinant_40 rfl
theorem zdT_dX9_determinant_87 : zdch cX9_determinant [(87, (.lstore 8, 2)), (89, (.aload_n 0, 1)), (90, (.getfield 108, 3)), (93, (.bipush 11, 2)), (95, (.iload 6, 2)), (97, (.imul, 1)), (98, (.iload 7, 2)), (100, (.iadd, 1)), (101, (.aload_n 0, 1)), (102, (.getfield 108, 3)), (105, (.bipush 11, 2)), (107, (.iload 5, 2)), (109, (.imul, 1)), (110, (.iload 7, 2)), (112, (.iadd, 1)), (113, (.laload, 1)), (114, (.lastore, 1)), (115, (.aload_n 0, 1)), (116, (.getfield 108, 3)), (119, (.bipush 11, 2)), (121, (.iload 5, 2)), (123, (.imul, 1)), (124, (.iload 7, 2)), (126, (.iadd, 1)), (127, (.lload 8, 2))] = true := by decide +kernel
theorem dX9_determinant_87 : decode cX9_determinant 87 = .ok (.lstore 8, 2) := zdcg 0 zdT_dX9_determinant_87 rfl
theorem dX9_determinant_89 : decode cX9_determinant 89 = .ok (.aload_n 0, 1) := zdcg 1 zdT_dX9_determinant_87 rfl
theorem dX9_determinant_90 : decode cX9_determinant 90 = .ok (.getfield 108, 3) := zdcg 2 zdT_dX9_determinant_87 rfl
theorem dX9_determinant_93 : decode cX9_determinant 93 = .ok (.bipush 11, 2) := zdcg 3 zdT_dX9_determinant_87 rfl
theorem dX9_determinant_95 : decode cX9_determinant 95 = .ok (.iload 6, 2) := zdcg 4 zdT_dX9_determinant_87 rfl
theorem dX9_determinant_97 : decode cX9_determinant 97 = .ok (.imul, 1) := zdcg 5 zdT_dX9_determinant_87 rfl
theorem dX9_determinant_98 : decode cX9_determinant 98 = .ok (.iload 7, 2) := zdcg 6 zdT_dX9_determinant_87 rfl
theorem dX9_determinant_100 : decode cX9_determinant 100 = .ok (.iadd, 1) := zdcg 7 zdT_dX9_determinant_87 rfl
theorem dX9_determinant_101 : decode cX9_determinant 101 = .ok (.aload_n 0, 1) := zdcg 8 zdT_dX9_determinant_87 rfl
theorem dX9_determinant_102 : decode cX9_determinant 102 = .ok (.getfield 108, 3) := zdcg 9 zdT_dX9_determinant_87 rfl
theorem dX9_determinant_105 : decode cX9_determinant 105 = .ok (.bipush 11, 2) := zdcg 10 zdT_dX9_determinant_87 rfl
theorem dX9_determinant_107 : decode cX9_determinant 107 = .ok (.iload 5, 2) := zdcg 11 zdT_dX9_determinant_87 rfl
theorem dX9_determinant_109 : decode cX9_determinant 109 = .ok (.imul, 1) := zdcg 12 zdT_dX9_determinant_87 rfl
theorem dX9_determinant_110 : decode cX9_determinant 110 = .ok (.iload 7, 2) := zdcg 13 zdT_dX9_determinant_87 rfl
theorem dX9_determinant_112 : decode cX9_determinant 112 = .ok (.iadd, 1) := zdcg 14 zdT_dX9_determinant_87 rfl
theorem dX9_determinant_113 : decode cX9_determinant 113 = .ok (.laload, 1) := zdcg 15 zdT_dX9_determinant_87 rfl
theorem dX9_determinant_114 : decode cX9_determinant 114 = .ok (.lastore, 1) := zdcg 16 zdT_dX9_determinant_87 rfl
theorem dX9_determinant_115 : decode cX9_determinant 115 = .ok (.aload_n 0, 1) := zdcg 17 zdT_dX9_determinant_87 rfl
theorem dX9_determinant_116 : decode cX9_determinant 116 = .ok (.getfield 108, 3) := zdcg 18 zdT_dX9_determinant_87 rfl
theorem dX9_determinant_119 : decode cX9_determinant 119 = .ok (.bipush 11, 2) := zdcg 19 zdT_dX9_determinant_87 rfl
theorem dX9_determinant_121 : decode cX9_determinant 121 = .ok (.iload 5, 2) := zdcg 20 zdT_dX9_determinant_87 rfl
theorem dX9_determinant_123 : decode cX9_determinant 123 = .ok (.imul, 1) := zdcg 21 zdT_dX9_determinant_87 rfl
theorem dX9_determinant_124 : decode cX9_determinant 124 = .ok (.iload 7, 2) := zdcg 22 zdT_dX9_determinant_87 rfl
theorem dX9_determinant_126 : decode cX9_determinant 126 = .ok (.iadd, 1) := zdcg 23 zdT_dX9_determinant_87 rfl
theorem dX9_determinant_127 : decode cX9_determinant 127 = .ok (.lload 8, 2) := zdcg 24 zdT_dX9_determinant_87 rfl
theorem zdT_dX9_determinant_129 : zdch cX9_determinant [(129, (.lastore, 1)), (130, (.iinc 7 1, 3)), (133, (.goto (-72), 3)), (136, (.iload 6, 2)), (138, (.iload 5, 2)), (140, (.if_icmp .eq 8, 3)), (143, (.iload 4, 2)), (145, (.ineg, 1)), (146, (.istore 4, 2)), (148, (.iload 5, 2)), (150, (.iconst 1, 1)), (151, (.iadd, 1)), (152, (.istore 7, 2)), (154, (.iload 7, 2)), (156, (.iload_n 1, 1)), (157, (.if_icmp .ge 97, 3)), (160, (.iload 5, 2)), (162, (.iconst 1, 1)), (163, (.iadd, 1)), (164, (.istore 8, 2)), (166, (.iload 8, 2)), (168, (.iload_n 1, 1)), (169, (.if_icmp .ge 79, 3)), (172, (.aload_n 0, 1)), (173, (.getfield 108, 3))] = true := by decide +kernel
theorem dX9_determinant_129 : decode cX9_determinant 129 = .ok (.lastore, 1) := zdcg 0 zdT_dX9_determinant_129 rfl
theorem dX9_determinant_130 : decode cX9_determinant 130 = .ok (.iinc 7 1, 3) := zdcg 1 zdT_dX9_determinant_129 rfl
theorem dX9_determinant_133 : decode cX9_determinant 133 = .ok (.goto (-72), 3) := zdcg 2 zdT_dX9_determinant_129 rfl
theorem dX9_determinant_136 : decode cX9_determinant 136 = .ok (.iload 6, 2) := zdcg 3 zdT_dX9_determinant_129 rfl
theorem dX9_determinant_138 : decode cX9_determinant 138 = .ok (.iload 5, 2) := zdcg 4 zdT_dX9_determinant_129 rfl
theorem dX9_determinant_140 : decode cX9_determinant 140 = .ok (.if_icmp .eq 8, 3) := zdcg 5 zdT_dX9_determinant_129 rfl
theorem dX9_determinant_143 : decode cX9_determinant 143 = .ok (.iload 4, 2) := zdcg 6 zdT_dX9_determinant_129 rfl
theorem dX9_determinant_145 : decode cX9_determinant 145 = .ok (.ineg, 1) := zdcg 7 zdT_dX9_determinant_129 rfl
theorem dX9_determinant_146 : decode cX9_determinant 146 = .ok (.istore 4, 2) := zdcg 8 zdT_dX9_determinant_129 rfl
theorem dX9_determinant_148 : decode cX9_determinant 148 = .ok (.iload 5, 2) := zdcg 9 zdT_dX9_determinant_129 rfl
theorem dX9_determinant_150 : decode cX9_determinant 150 = .ok (.iconst 1, 1) := zdcg 10 zdT_dX9_determinant_129 rfl
theorem dX9_determinant_151 : decode cX9_determinant 151 = .ok (.iadd, 1) := zdcg 11 zdT_dX9_determinant_129 rfl
theorem dX9_determinant_152 : decode cX9_determinant 152 = .ok (.istore 7, 2) := zdcg 12 zdT_dX9_determinant_129 rfl
theorem dX9_determinant_154 : decode cX9_determinant 154 = .ok (.iload 7, 2) := zdcg 13 zdT_dX9_determinant_129 rfl
theorem dX9_determinant_156 : decode cX9_determinant 156 = .ok (.iload_n 1, 1) := zdcg 14 zdT_dX9_determinant_129 rfl
theorem dX9_determinant_157 : decode cX9_determinant 157 = .ok (.if_icmp .ge 97, 3) := zdcg 15 zdT_dX9_determinant_129 rfl
theorem dX9_determinant_160 : decode cX9_determinant 160 = .ok (.iload 5, 2) := zdcg 16 zdT_dX9_determinant_129 rfl
theorem dX9_determinant_162 : decode cX9_determinant 162 = .ok (.iconst 1, 1) := zdcg 17 zdT_dX9_determinant_129 rfl
theorem dX9_determinant_163 : decode cX9_determinant 163 = .ok (.iadd, 1) := zdcg 18 zdT_dX9_determinant_129 rfl
theorem dX9_determinant_164 : decode cX9_determinant 164 = .ok (.istore 8, 2) := zdcg 19 zdT_dX9_determinant_129 rfl
theorem dX9_determinant_166 : decode cX9_determinant 166 = .ok (.iload 8, 2) := zdcg 20 zdT_dX9_determinant_129 rfl
theorem dX9_determinant_168 : decode cX9_determinant 168 = .ok (.iload_n 1, 1) := zdcg 21 zdT_dX9_determinant_129 rfl
theorem dX9_determinant_169 : decode cX9_determinant 169 = .ok (.if_icmp .ge 79, 3) := zdcg 22 zdT_dX9_determinant_129 rfl
theorem dX9_determinant_172 : decode cX9_determinant 172 = .ok (.aload_n 0, 1) := zdcg 23 zdT_dX9_determinant_129 rfl
theorem dX9_determinant_173 : decode cX9_determinant 173 = .ok (.getfield 108, 3) := zdcg 24 zdT_dX9_determinant_129 rfl
theorem zdT_dX9_determinant_176 : zdch cX9_determinant [(176, (.bipush 11, 2)), (178, (.iload 7, 2)), (180, (.imul, 1)), (181, (.iload 8, 2)), (183, (.iadd, 1)), (184, (.aload_n 0, 1)), (185, (.getfield 108, 3)), (188, (.bipush 11, 2)), (190, (.iload 7, 2)), (192, (.imul, 1)), (193, (.iload 8, 2)), (195, (.iadd, 1)), (196, (.laload, 1)), (197, (.aload_n 0, 1)), (198, (.getfield 108, 3)), (201, (.bipush 11, 2)), (203, (.iload 5, 2)), (205, (.imul, 1)), (206, (.iload 5, 2)), (208, (.iadd, 1)), (209, (.laload, 1)), (210, (.lmul, 1)), (211, (.aload_n 0, 1)), (212, (.getfield 108, 3)), (215, (.bipush 11, 2))] = true := by decide +kernel
theorem dX9_determinant_176 : decode cX9_determinant 176 = .ok (.bipush 11, 2) := zdcg 0 zdT_dX9_determinant_176 rfl
theorem dX9_determinant_178 : decode cX9_determinant 178 = .ok (.iload 7, 2) := zdcg 1 zdT_dX9_determinant_176 rfl
theorem dX9_determinant_180 : decode cX9_determinant 180 = .ok (.imul, 1) := zdcg 2 zdT_dX9_determinant_176 rfl
theorem dX9_determinant_181 : decode cX9_determinant 181 = .ok (.iload 8, 2) := zdcg 3 zdT_dX9_determinant_176 rfl
theorem dX9_determinant_183 : decode cX9_determinant 183 = .ok (.iadd, 1) := zdcg 4 zdT_dX9_determinant_176 rfl
theorem dX9_determinant_184 : decode cX9_determinant 184 = .ok (.aload_n 0, 1) := zdcg 5 zdT_dX9_determinant_176 rfl
theorem dX9_determinant_185 : decode cX9_determinant 185 = .ok (.getfield 108, 3) := zdcg 6 zdT_dX9_determinant_176 rfl
theorem dX9_determinant_188 : decode cX9_determinant 188 = .ok (.bipush 11, 2) := zdcg 7 zdT_dX9_determinant_176 rfl
theorem dX9_determinant_190 : decode cX9_determinant 190 = .ok (.iload 7, 2) := zdcg 8 zdT_dX9_determinant_176 rfl
theorem dX9_determinant_192 : decode cX9_determinant 192 = .ok (.imul, 1) := zdcg 9 zdT_dX9_determinant_176 rfl
theorem dX9_determinant_193 : decode cX9_determinant 193 = .ok (.iload 8, 2) := zdcg 10 zdT_dX9_determinant_176 rfl
theorem dX9_determinant_195 : decode cX9_determinant 195 = .ok (.iadd, 1) := zdcg 11 zdT_dX9_determinant_176 rfl
theorem dX9_determinant_196 : decode cX9_determinant 196 = .ok (.laload, 1) := zdcg 12 zdT_dX9_determinant_176 rfl
theorem dX9_determinant_197 : decode cX9_determinant 197 = .ok (.aload_n 0, 1) := zdcg 13 zdT_dX9_determinant_176 rfl
theorem dX9_determinant_198 : decode cX9_determinant 198 = .ok (.getfield 108, 3) := zdcg 14 zdT_dX9_determinant_176 rfl
theorem dX9_determinant_201 : decode cX9_determinant 201 = .ok (.bipush 11, 2) := zdcg 15 zdT_dX9_determinant_176 rfl
theorem dX9_determinant_203 : decode cX9_determinant 203 = .ok (.iload 5, 2) := zdcg 16 zdT_dX9_determinant_176 rfl
theorem dX9_determinant_205 : decode cX9_determinant 205 = .ok (.imul, 1) := zdcg 17 zdT_dX9_determinant_176 rfl
theorem dX9_determinant_206 : decode cX9_determinant 206 = .ok (.iload 5, 2) := zdcg 18 zdT_dX9_determinant_176 rfl
theorem dX9_determinant_208 : decode cX9_determinant 208 = .ok (.iadd, 1) := zdcg 19 zdT_dX9_determinant_176 rfl
theorem dX9_determinant_209 : decode cX9_determinant 209 = .ok (.laload, 1) := zdcg 20 zdT_dX9_determinant_176 rfl
theorem dX9_determinant_210 : decode cX9_determinant 210 = .ok (.lmul, 1) := zdcg 21 zdT_dX9_determinant_176 rfl
theorem dX9_determinant_211 : decode cX9_determinant 211 = .ok (.aload_n 0, 1) := zdcg 22 zdT_dX9_determinant_176 rfl
theorem dX9_determinant_212 : decode cX9_determinant 212 = .ok (.getfield 108, 3) := zdcg 23 zdT_dX9_determinant_176 rfl
theorem dX9_determinant_215 : decode cX9_determinant 215 = .ok (.bipush 11, 2) := zdcg 24 zdT_dX9_determinant_176 rfl
theorem zdT_dX9_determinant_217 : zdch cX9_determinant [(217, (.iload 7, 2)), (219, (.imul, 1)), (220, (.iload 5, 2)), (222, (.iadd, 1)), (223, (.laload, 1)), (224, (.aload_n 0, 1)), (225, (.getfield 108, 3)), (228, (.bipush 11, 2)), (230, (.iload 5, 2)), (232, (.imul, 1)), (233, (.iload 8, 2)), (235, (.iadd, 1)), (236, (.laload, 1)), (237, (.lmul, 1)), (238, (.lsub, 1)), (239, (.lload_n 2, 1)), (240, (.ldiv, 1)), (241, (.lastore, 1)), (242, (.iinc 8 1, 3)), (245, (.goto (-79), 3)), (248, (.iinc 7 1, 3)), (251, (.goto (-97), 3)), (254, (.aload_n 0, 1)), (255, (.getfield 108, 3)), (258, (.bipush 11, 2))] = true := by decide +kernel
theorem dX9_determinant_217 : decode cX9_determinant 217 = .ok (.iload 7, 2) := zdcg 0 zdT_dX9_determinant_217 rfl
theorem dX9_determinant_219 : decode cX9_determinant 219 = .ok (.imul, 1) := zdcg 1 zdT_dX9_determinant_217 rfl
theorem dX9_determinant_220 : decode cX9_determinant 220 = .ok (.iload 5, 2) := zdcg 2 zdT_dX9_determinant_217 rfl
theorem dX9_determinant_222 : decode cX9_determinant 222 = .ok (.iadd, 1) := zdcg 3 zdT_dX9_determinant_217 rfl
theorem dX9_determinant_223 : decode cX9_determinant 223 = .ok (.laload, 1) := zdcg 4 zdT_dX9_determinant_217 rfl
theorem dX9_determinant_224 : decode cX9_determinant 224 = .ok (.aload_n 0, 1) := zdcg 5 zdT_dX9_determinant_217 rfl
theorem dX9_determinant_225 : decode cX9_determinant 225 = .ok (.getfield 108, 3) := zdcg 6 zdT_dX9_determinant_217 rfl
theorem dX9_determinant_228 : decode cX9_determinant 228 = .ok (.bipush 11, 2) := zdcg 7 zdT_dX9_determinant_217 rfl
theorem dX9_determinant_230 : decode cX9_determinant 230 = .ok (.iload 5, 2) := zdcg 8 zdT_dX9_determinant_217 rfl
theorem dX9_determinant_232 : decode cX9_determinant 232 = .ok (.imul, 1) := zdcg 9 zdT_dX9_determinant_217 rfl
theorem dX9_determinant_233 : decode cX9_determinant 233 = .ok (.iload 8, 2) := zdcg 10 zdT_dX9_determinant_217 rfl
theorem dX9_determinant_235 : decode cX9_determinant 235 = .ok (.iadd, 1) := zdcg 11 zdT_dX9_determinant_217 rfl
theorem dX9_determinant_236 : decode cX9_determinant 236 = .ok (.laload, 1) := zdcg 12 zdT_dX9_determinant_217 rfl
theorem dX9_determinant_237 : decode cX9_determinant 237 = .ok (.lmul, 1) := zdcg 13 zdT_dX9_determinant_217 rfl
theorem dX9_determinant_238 : decode cX9_determinant 238 = .ok (.lsub, 1) := zdcg 14 zdT_dX9_determinant_217 rfl
theorem dX9_determinant_239 : decode cX9_determinant 239 = .ok (.lload_n 2, 1) := zdcg 15 zdT_dX9_determinant_217 rfl
theorem dX9_determinant_240 : decode cX9_determinant 240 = .ok (.ldiv, 1) := zdcg 16 zdT_dX9_determinant_217 rfl
theorem dX9_determinant_241 : decode cX9_determinant 241 = .ok (.lastore, 1) := zdcg 17 zdT_dX9_determinant_217 rfl
theorem dX9_determinant_242 : decode cX9_determinant 242 = .ok (.iinc 8 1, 3) := zdcg 18 zdT_dX9_determinant_217 rfl
theorem dX9_determinant_245 : decode cX9_determinant 245 = .ok (.goto (-79), 3) := zdcg 19 zdT_dX9_determinant_217 rfl
theorem dX9_determinant_248 : decode cX9_determinant 248 = .ok (.iinc 7 1, 3) := zdcg 20 zdT_dX9_determinant_217 rfl
theorem dX9_determinant_251 : decode cX9_determinant 251 = .ok (.goto (-97), 3) := zdcg 21 zdT_dX9_determinant_217 rfl
theorem dX9_determinant_254 : decode cX9_determinant 254 = .ok (.aload_n 0, 1) := zdcg 22 zdT_dX9_determinant_217 rfl
theorem dX9_determinant_255 : decode cX9_determinant 255 = .ok (.getfield 108, 3) := zdcg 23 zdT_dX9_determinant_217 rfl
theorem dX9_determinant_258 : decode cX9_determinant 258 = .ok (.bipush 11, 2) := zdcg 24 zdT_dX9_determinant_217 rfl
theorem zdT_dX9_determinant_260 : zdch cX9_determinant [(260, (.iload 5, 2)), (262, (.imul, 1)), (263, (.iload 5, 2)), (265, (.iadd, 1)), (266, (.laload, 1)), (267, (.lstore_n 2, 1)), (268, (.iinc 5 1, 3)), (271, (.goto (-263), 3)), (274, (.iload_n 1, 1)), (275, (.ifCond .ne 7, 3)), (278, (.lconst 1, 1)), (279, (.goto 22, 3)), (282, (.iload 4, 2)), (284, (.i2l, 1)), (285, (.aload_n 0, 1)), (286, (.getfield 108, 3)), (289, (.bipush 11, 2)), (291, (.iload_n 1, 1)), (292, (.iconst 1, 1)), (293, (.isub, 1)), (294, (.imul, 1)), (295, (.iload_n 1, 1)), (296, (.iadd, 1)), (297, (.iconst 1, 1)), (298, (.isub, 1))] = true := by decide +kernel
theorem dX9_determinant_260 : decode cX9_determinant 260 = .ok (.iload 5, 2) := zdcg 0 zdT_dX9_determinant_260 rfl
theorem dX9_determinant_262 : decode cX9_determinant 262 = .ok (.imul, 1) := zdcg 1 zdT_dX9_determinant_260 rfl
theorem dX9_determinant_263 : decode cX9_determinant 263 = .ok (.iload 5, 2) := zdcg 2 zdT_dX9_determinant_260 rfl
theorem dX9_determinant_265 : decode cX9_determinant 265 = .ok (.iadd, 1) := zdcg 3 zdT_dX9_determinant_260 rfl
theorem dX9_determinant_266 : decode cX9_determinant 266 = .ok (.laload, 1) := zdcg 4 zdT_dX9_determinant_260 rfl
theorem dX9_determinant_267 : decode cX9_determinant 267 = .ok (.lstore_n 2, 1) := zdcg 5 zdT_dX9_determinant_260 rfl
theorem dX9_determinant_268 : decode cX9_determinant 268 = .ok (.iinc 5 1, 3) := zdcg 6 zdT_dX9_determinant_260 rfl
theorem dX9_determinant_271 : decode cX9_determinant 271 = .ok (.goto (-263), 3) := zdcg 7 zdT_dX9_determinant_260 rfl
theorem dX9_determinant_274 : decode cX9_determinant 274 = .ok (.iload_n 1, 1) := zdcg 8 zdT_dX9_determinant_260 rfl
theorem dX9_determinant_275 : decode cX9_determinant 275 = .ok (.ifCond .ne 7, 3) := zdcg 9 zdT_dX9_determinant_260 rfl
theorem dX9_determinant_278 : decode cX9_determinant 278 = .ok (.lconst 1, 1) := zdcg 10 zdT_dX9_determinant_260 rfl
theorem dX9_determinant_279 : decode cX9_determinant 279 = .ok (.goto 22, 3) := zdcg 11 zdT_dX9_determinant_260 rfl
theorem dX9_determinant_282 : decode cX9_determinant 282 = .ok (.iload 4, 2) := zdcg 12 zdT_dX9_determinant_260 rfl
theorem dX9_determinant_284 : decode cX9_determinant 284 = .ok (.i2l, 1) := zdcg 13 zdT_dX9_determinant_260 rfl
theorem dX9_determinant_285 : decode cX9_determinant 285 = .ok (.aload_n 0, 1) := zdcg 14 zdT_dX9_determinant_260 rfl
theorem dX9_determinant_286 : decode cX9_determinant 286 = .ok (.getfield 108, 3) := zdcg 15 zdT_dX9_determinant_260 rfl
theorem dX9_determinant_289 : decode cX9_determinant 289 = .ok (.bipush 11, 2) := zdcg 16 zdT_dX9_determinant_260 rfl
theorem dX9_determinant_291 : decode cX9_determinant 291 = .ok (.iload_n 1, 1) := zdcg 17 zdT_dX9_determinant_260 rfl
theorem dX9_determinant_292 : decode cX9_determinant 292 = .ok (.iconst 1, 1) := zdcg 18 zdT_dX9_determinant_260 rfl
theorem dX9_determinant_293 : decode cX9_determinant 293 = .ok (.isub, 1) := zdcg 19 zdT_dX9_determinant_260 rfl
theorem dX9_determinant_294 : decode cX9_determinant 294 = .ok (.imul, 1) := zdcg 20 zdT_dX9_determinant_260 rfl
theorem dX9_determinant_295 : decode cX9_determinant 295 = .ok (.iload_n 1, 1) := zdcg 21 zdT_dX9_determinant_260 rfl
theorem dX9_determinant_296 : decode cX9_determinant 296 = .ok (.iadd, 1) := zdcg 22 zdT_dX9_determinant_260 rfl
theorem dX9_determinant_297 : decode cX9_determinant 297 = .ok (.iconst 1, 1) := zdcg 23 zdT_dX9_determinant_260 rfl
theorem dX9_determinant_298 : decode cX9_determinant 298 = .ok (.isub, 1) := zdcg 24 zdT_dX9_determinant_260 rfl
theorem zdT_dX9_determinant_299 : zdch cX9_determinant [(299, (.laload, 1)), (300, (.lmul, 1)), (301, (.lreturn, 1))] = true := by decide +kernel
theorem dX9_determinant_299 : decode cX9_determinant 299 = .ok (.laload, 1) := zdcg 0 zdT_dX9_determinant_299 rfl
theorem dX9_determinant_300 : decode cX9_determinant 300 = .ok (.lmul, 1) := zdcg 1 zdT_dX9_determinant_299 rfl
theorem dX9_determinant_301 : decode cX9_determinant 301 = .ok (.lreturn, 1) := zdcg 2 zdT_dX9_determinant_299 rfl
theorem zdT_dX9_defect_0 : zdch cX9_defect [(0, (.iconst 0, 1)), (1, (.istore_n 2, 1)), (2, (.iconst 1, 1)), (3, (.istore_n 3, 1)), (4, (.iload_n 3, 1)), (5, (.aload_n 0, 1)), (6, (.getfield 184, 3)), (9, (.iload_n 1, 1)), (10, (.imul, 1)), (11, (.if_icmp .gt 37, 3)), (14, (.iload_n 3, 1)), (15, (.istore 4, 2)), (17, (.iload 4, 2)), (19, (.aload_n 0, 1)), (20, (.getfield 184, 3)), (23, (.irem, 1)), (24, (.ifCond .ne 18, 3)), (27, (.iinc 2 1, 3)), (30, (.iload 4, 2)), (32, (.aload_n 0, 1)), (33, (.getfield 184, 3)), (36, (.idiv, 1)), (37, (.istore 4, 2)), (39, (.goto (-22), 3)), (42, (.iinc 3 1, 3))] = true := by decide +kernel
theorem dX9_defect_0 : decode cX9_defect 0 = .ok (.iconst 0, 1) := zdcg 0 zdT_dX9_defect_0 rfl
theorem dX9_defect_1 : decode cX9_defect 1 = .ok (.istore_n 2, 1) := zdcg 1 zdT_dX9_defect_0 rfl
theorem dX9_defect_2 : decode cX9_defect 2 = .ok (.iconst 1, 1) := zdcg 2 zdT_dX9_defect_0 rfl
theorem dX9_defect_3 : decode cX9_defect 3 = .ok (.istore_n 3, 1) := zdcg 3 zdT_dX9_defect_0 rfl
theorem dX9_defect_4 : decode cX9_defect 4 = .ok (.iload_n 3, 1) := zdcg 4 zdT_dX9_defect_0 rfl
theorem dX9_defect_5 : decode cX9_defect 5 = .ok (.aload_n 0, 1) := zdcg 5 zdT_dX9_defect_0 rfl
theorem dX9_defect_6 : decode cX9_defect 6 = .ok (.getfield 184, 3) := zdcg 6 zdT_dX9_defect_0 rfl
theorem dX9_defect_9 : decode cX9_defect 9 = .ok (.iload_n 1, 1) := zdcg 7 zdT_dX9_defect_0 rfl
theorem dX9_defect_10 : decode cX9_defect 10 = .ok (.imul, 1) := zdcg 8 zdT_dX9_defect_0 rfl
theorem dX9_defect_11 : decode cX9_defect 11 = .ok (.if_icmp .gt 37, 3) := zdcg 9 zdT_dX9_defect_0 rfl
theorem dX9_defect_14 : decode cX9_defect 14 = .ok (.iload_n 3, 1) := zdcg 10 zdT_dX9_defect_0 rfl
theorem dX9_defect_15 : decode cX9_defect 15 = .ok (.istore 4, 2) := zdcg 11 zdT_dX9_defect_0 rfl
theorem dX9_defect_17 : decode cX9_defect 17 = .ok (.iload 4, 2) := zdcg 12 zdT_dX9_defect_0 rfl
theorem dX9_defect_19 : decode cX9_defect 19 = .ok (.aload_n 0, 1) := zdcg 13 zdT_dX9_defect_0 rfl
theorem dX9_defect_20 : decode cX9_defect 20 = .ok (.getfield 184, 3) := zdcg 14 zdT_dX9_defect_0 rfl
theorem dX9_defect_23 : decode cX9_defect 23 = .ok (.irem, 1) := zdcg 15 zdT_dX9_defect_0 rfl
theorem dX9_defect_24 : decode cX9_defect 24 = .ok (.ifCond .ne 18, 3) := zdcg 16 zdT_dX9_defect_0 rfl
theorem dX9_defect_27 : decode cX9_defect 27 = .ok (.iinc 2 1, 3) := zdcg 17 zdT_dX9_defect_0 rfl
theorem dX9_defect_30 : decode cX9_defect 30 = .ok (.iload 4, 2) := zdcg 18 zdT_dX9_defect_0 rfl
theorem dX9_defect_32 : decode cX9_defect 32 = .ok (.aload_n 0, 1) := zdcg 19 zdT_dX9_defect_0 rfl
theorem dX9_defect_33 : decode cX9_defect 33 = .ok (.getfield 184, 3) := zdcg 20 zdT_dX9_defect_0 rfl
theorem dX9_defect_36 : decode cX9_defect 36 = .ok (.idiv, 1) := zdcg 21 zdT_dX9_defect_0 rfl
theorem dX9_defect_37 : decode cX9_defect 37 = .ok (.istore 4, 2) := zdcg 22 zdT_dX9_defect_0 rfl
theorem dX9_defect_39 : decode cX9_defect 39 = .ok (.goto (-22), 3) := zdcg 23 zdT_dX9_defect_0 rfl
theorem dX9_defect_42 : decode cX9_defect 42 = .ok (.iinc 3 1, 3) := zdcg 24 zdT_dX9_defect_0 rfl
theorem zdT_dX9_defect_45 : zdch cX9_defect [(45, (.goto (-41), 3)), (48, (.iload_n 2, 1)), (49, (.ireturn, 1))] = true := by decide +kernel
theorem dX9_defect_45 : decode cX9_defect 45 = .ok (.goto (-41), 3) := zdcg 0 zdT_dX9_defect_45 rfl
theorem dX9_defect_48 : decode cX9_defect 48 = .ok (.iload_n 2, 1) := zdcg 1 zdT_dX9_defect_45 rfl
theorem dX9_defect_49 : decode cX9_defect 49 = .ok (.ireturn, 1) := zdcg 2 zdT_dX9_defect_45 rfl
theorem zdT_dX9_block_0 : zdch cX9_block [(0, (.iload_n 2, 1)), (1, (.iconst (-1), 1)), (2, (.if_icmp .ne 8, 3)), (5, (.aload_n 0, 1)), (6, (.getfield 199, 3)), (9, (.ireturn, 1)), (10, (.iload_n 1, 1)), (11, (.i2l, 1)), (12, (.lconst 0, 1)), (13, (.aload_n 0, 1)), (14, (.getfield 199, 3)), (17, (.iconst 1, 1)), (18, (.isub, 1)), (19, (.i2l, 1)), (20, (.invokestatic 283, 3)), (23, (.ifCond .ne 5, 3)), (26, (.iconst (-1), 1)), (27, (.ireturn, 1)), (28, (.aload_n 0, 1)), (29, (.iload_n 1, 1)), (30, (.invokevirtual 309, 3)), (33, (.istore_n 3, 1)), (34, (.iconst 0, 1)), (35, (.istore 4, 2)), (37, (.iconst 0, 1))] = true := by decide +kernel
theorem dX9_block_0 : decode cX9_block 0 = .ok (.iload_n 2, 1) := zdcg 0 zdT_dX9_block_0 rfl
theorem dX9_block_1 : decode cX9_block 1 = .ok (.iconst (-1), 1) := zdcg 1 zdT_dX9_block_0 rfl
theorem dX9_block_2 : decode cX9_block 2 = .ok (.if_icmp .ne 8, 3) := zdcg 2 zdT_dX9_block_0 rfl
theorem dX9_block_5 : decode cX9_block 5 = .ok (.aload_n 0, 1) := zdcg 3 zdT_dX9_block_0 rfl
theorem dX9_block_6 : decode cX9_block 6 = .ok (.getfield 199, 3) := zdcg 4 zdT_dX9_block_0 rfl
theorem dX9_block_9 : decode cX9_block 9 = .ok (.ireturn, 1) := zdcg 5 zdT_dX9_block_0 rfl
theorem dX9_block_10 : decode cX9_block 10 = .ok (.iload_n 1, 1) := zdcg 6 zdT_dX9_block_0 rfl
theorem dX9_block_11 : decode cX9_block 11 = .ok (.i2l, 1) := zdcg 7 zdT_dX9_block_0 rfl
theorem dX9_block_12 : decode cX9_block 12 = .ok (.lconst 0, 1) := zdcg 8 zdT_dX9_block_0 rfl
theorem dX9_block_13 : decode cX9_block 13 = .ok (.aload_n 0, 1) := zdcg 9 zdT_dX9_block_0 rfl
theorem dX9_block_14 : decode cX9_block 14 = .ok (.getfield 199, 3) := zdcg 10 zdT_dX9_block_0 rfl
theorem dX9_block_17 : decode cX9_block 17 = .ok (.iconst 1, 1) := zdcg 11 zdT_dX9_block_0 rfl
theorem dX9_block_18 : decode cX9_block 18 = .ok (.isub, 1) := zdcg 12 zdT_dX9_block_0 rfl
theorem dX9_block_19 : decode cX9_block 19 = .ok (.i2l, 1) := zdcg 13 zdT_dX9_block_0 rfl
theorem dX9_block_20 : decode cX9_block 20 = .ok (.invokestatic 283, 3) := zdcg 14 zdT_dX9_block_0 rfl
theorem dX9_block_23 : decode cX9_block 23 = .ok (.ifCond .ne 5, 3) := zdcg 15 zdT_dX9_block_0 rfl
theorem dX9_block_26 : decode cX9_block 26 = .ok (.iconst (-1), 1) := zdcg 16 zdT_dX9_block_0 rfl
theorem dX9_block_27 : decode cX9_block 27 = .ok (.ireturn, 1) := zdcg 17 zdT_dX9_block_0 rfl
theorem dX9_block_28 : decode cX9_block 28 = .ok (.aload_n 0, 1) := zdcg 18 zdT_dX9_block_0 rfl
theorem dX9_block_29 : decode cX9_block 29 = .ok (.iload_n 1, 1) := zdcg 19 zdT_dX9_block_0 rfl
theorem dX9_block_30 : decode cX9_block 30 = .ok (.invokevirtual 309, 3) := zdcg 20 zdT_dX9_block_0 rfl
theorem dX9_block_33 : decode cX9_block 33 = .ok (.istore_n 3, 1) := zdcg 21 zdT_dX9_block_0 rfl
theorem dX9_block_34 : decode cX9_block 34 = .ok (.iconst 0, 1) := zdcg 22 zdT_dX9_block_0 rfl
theorem dX9_block_35 : decode cX9_block 35 = .ok (.istore 4, 2) := zdcg 23 zdT_dX9_block_0 rfl
theorem dX9_block_37 : decode cX9_block 37 = .ok (.iconst 0, 1) := zdcg 24 zdT_dX9_block_0 rfl
theorem zdT_dX9_block_38 : zdch cX9_block [(38, (.istore 5, 2)), (40, (.iload 5, 2)), (42, (.aload_n 0, 1)), (43, (.getfield 153, 3)), (46, (.if_icmp .ge 33, 3)), (49, (.iload 4, 2)), (51, (.aload_n 0, 1)), (52, (.getfield 47, 3)), (55, (.iload 5, 2)), (57, (.iaload, 1)), (58, (.iload_n 1, 1)), (59, (.if_icmp .ne 7, 3)), (62, (.iconst 1, 1)), (63, (.goto 4, 3)), (66, (.iconst 0, 1)), (67, (.invokestatic 187, 3)), (70, (.iadd, 1)), (71, (.istore 4, 2)), (73, (.iinc 5 1, 3)), (76, (.goto (-36), 3)), (79, (.iload_n 2, 1)), (80, (.tableswitch 149 0 5 #[40, 43, 45, 57, 73, 80], 40)), (120, (.iload 4, 2)), (122, (.ireturn, 1)), (123, (.iload_n 3, 1))] = true := by decide +kernel
theorem dX9_block_38 : decode cX9_block 38 = .ok (.istore 5, 2) := zdcg 0 zdT_dX9_block_38 rfl
theorem dX9_block_40 : decode cX9_block 40 = .ok (.iload 5, 2) := zdcg 1 zdT_dX9_block_38 rfl
theorem dX9_block_42 : decode cX9_block 42 = .ok (.aload_n 0, 1) := zdcg 2 zdT_dX9_block_38 rfl
theorem dX9_block_43 : decode cX9_block 43 = .ok (.getfield 153, 3) := zdcg 3 zdT_dX9_block_38 rfl
theorem dX9_block_46 : decode cX9_block 46 = .ok (.if_icmp .ge 33, 3) := zdcg 4 zdT_dX9_block_38 rfl
theorem dX9_block_49 : decode cX9_block 49 = .ok (.iload 4, 2) := zdcg 5 zdT_dX9_block_38 rfl
theorem dX9_block_51 : decode cX9_block 51 = .ok (.aload_n 0, 1) := zdcg 6 zdT_dX9_block_38 rfl
theorem dX9_block_52 : decode cX9_block 52 = .ok (.getfield 47, 3) := zdcg 7 zdT_dX9_block_38 rfl
theorem dX9_block_55 : decode cX9_block 55 = .ok (.iload 5, 2) := zdcg 8 zdT_dX9_block_38 rfl
theorem dX9_block_57 : decode cX9_block 57 = .ok (.iaload, 1) := zdcg 9 zdT_dX9_block_38 rfl
theorem dX9_block_58 : decode cX9_block 58 = .ok (.iload_n 1, 1) := zdcg 10 zdT_dX9_block_38 rfl
theorem dX9_block_59 : decode cX9_block 59 = .ok (.if_icmp .ne 7, 3) := zdcg 11 zdT_dX9_block_38 rfl
theorem dX9_block_62 : decode cX9_block 62 = .ok (.iconst 1, 1) := zdcg 12 zdT_dX9_block_38 rfl
theorem dX9_block_63 : decode cX9_block 63 = .ok (.goto 4, 3) := zdcg 13 zdT_dX9_block_38 rfl
theorem dX9_block_66 : decode cX9_block 66 = .ok (.iconst 0, 1) := zdcg 14 zdT_dX9_block_38 rfl
theorem dX9_block_67 : decode cX9_block 67 = .ok (.invokestatic 187, 3) := zdcg 15 zdT_dX9_block_38 rfl
theorem dX9_block_70 : decode cX9_block 70 = .ok (.iadd, 1) := zdcg 16 zdT_dX9_block_38 rfl
theorem dX9_block_71 : decode cX9_block 71 = .ok (.istore 4, 2) := zdcg 17 zdT_dX9_block_38 rfl
theorem dX9_block_73 : decode cX9_block 73 = .ok (.iinc 5 1, 3) := zdcg 18 zdT_dX9_block_38 rfl
theorem dX9_block_76 : decode cX9_block 76 = .ok (.goto (-36), 3) := zdcg 19 zdT_dX9_block_38 rfl
theorem dX9_block_79 : decode cX9_block 79 = .ok (.iload_n 2, 1) := zdcg 20 zdT_dX9_block_38 rfl
theorem dX9_block_80 : decode cX9_block 80 = .ok (.tableswitch 149 0 5 #[40, 43, 45, 57, 73, 80], 40) := zdcg 21 zdT_dX9_block_38 rfl
theorem dX9_block_120 : decode cX9_block 120 = .ok (.iload 4, 2) := zdcg 22 zdT_dX9_block_38 rfl
theorem dX9_block_122 : decode cX9_block 122 = .ok (.ireturn, 1) := zdcg 23 zdT_dX9_block_38 rfl
theorem dX9_block_123 : decode cX9_block 123 = .ok (.iload_n 3, 1) := zdcg 24 zdT_dX9_block_38 rfl
theorem zdT_dX9_block_124 : zdch cX9_block [(124, (.ireturn, 1)), (125, (.aload_n 0, 1)), (126, (.getfield 41, 3)), (129, (.aload_n 0, 1)), (130, (.getfield 50, 3)), (133, (.iload_n 1, 1)), (134, (.iaload, 1)), (135, (.iaload, 1)), (136, (.ireturn, 1)), (137, (.aload_n 0, 1)), (138, (.aload_n 0, 1)), (139, (.getfield 41, 3)), (142, (.aload_n 0, 1)), (143, (.getfield 50, 3)), (146, (.iload_n 1, 1)), (147, (.iaload, 1)), (148, (.iaload, 1)), (149, (.invokevirtual 312, 3)), (152, (.ireturn, 1)), (153, (.aload_n 0, 1)), (154, (.getfield 50, 3)), (157, (.iload_n 1, 1)), (158, (.iaload, 1)), (159, (.ireturn, 1)), (160, (.iconst 0, 1))] = true := by decide +kernel
theorem dX9_block_124 : decode cX9_block 124 = .ok (.ireturn, 1) := zdcg 0 zdT_dX9_block_124 rfl
theorem dX9_block_125 : decode cX9_block 125 = .ok (.aload_n 0, 1) := zdcg 1 zdT_dX9_block_124 rfl
theorem dX9_block_126 : decode cX9_block 126 = .ok (.getfield 41, 3) := zdcg 2 zdT_dX9_block_124 rfl
theorem dX9_block_129 : decode cX9_block 129 = .ok (.aload_n 0, 1) := zdcg 3 zdT_dX9_block_124 rfl
theorem dX9_block_130 : decode cX9_block 130 = .ok (.getfield 50, 3) := zdcg 4 zdT_dX9_block_124 rfl
theorem dX9_block_133 : decode cX9_block 133 = .ok (.iload_n 1, 1) := zdcg 5 zdT_dX9_block_124 rfl
theorem dX9_block_134 : decode cX9_block 134 = .ok (.iaload, 1) := zdcg 6 zdT_dX9_block_124 rfl
theorem dX9_block_135 : decode cX9_block 135 = .ok (.iaload, 1) := zdcg 7 zdT_dX9_block_124 rfl
theorem dX9_block_136 : decode cX9_block 136 = .ok (.ireturn, 1) := zdcg 8 zdT_dX9_block_124 rfl
theorem dX9_block_137 : decode cX9_block 137 = .ok (.aload_n 0, 1) := zdcg 9 zdT_dX9_block_124 rfl
theorem dX9_block_138 : decode cX9_block 138 = .ok (.aload_n 0, 1) := zdcg 10 zdT_dX9_block_124 rfl
theorem dX9_block_139 : decode cX9_block 139 = .ok (.getfield 41, 3) := zdcg 11 zdT_dX9_block_124 rfl
theorem dX9_block_142 : decode cX9_block 142 = .ok (.aload_n 0, 1) := zdcg 12 zdT_dX9_block_124 rfl
theorem dX9_block_143 : decode cX9_block 143 = .ok (.getfield 50, 3) := zdcg 13 zdT_dX9_block_124 rfl
theorem dX9_block_146 : decode cX9_block 146 = .ok (.iload_n 1, 1) := zdcg 14 zdT_dX9_block_124 rfl
theorem dX9_block_147 : decode cX9_block 147 = .ok (.iaload, 1) := zdcg 15 zdT_dX9_block_124 rfl
theorem dX9_block_148 : decode cX9_block 148 = .ok (.iaload, 1) := zdcg 16 zdT_dX9_block_124 rfl
theorem dX9_block_149 : decode cX9_block 149 = .ok (.invokevirtual 312, 3) := zdcg 17 zdT_dX9_block_124 rfl
theorem dX9_block_152 : decode cX9_block 152 = .ok (.ireturn, 1) := zdcg 18 zdT_dX9_block_124 rfl
theorem dX9_block_153 : decode cX9_block 153 = .ok (.aload_n 0, 1) := zdcg 19 zdT_dX9_block_124 rfl
theorem dX9_block_154 : decode cX9_block 154 = .ok (.getfield 50, 3) := zdcg 20 zdT_dX9_block_124 rfl
theorem dX9_block_157 : decode cX9_block 157 = .ok (.iload_n 1, 1) := zdcg 21 zdT_dX9_block_124 rfl
theorem dX9_block_158 : decode cX9_block 158 = .ok (.iaload, 1) := zdcg 22 zdT_dX9_block_124 rfl
theorem dX9_block_159 : decode cX9_block 159 = .ok (.ireturn, 1) := zdcg 23 zdT_dX9_block_124 rfl
theorem dX9_block_160 : decode cX9_block 160 = .ok (.iconst 0, 1) := zdcg 24 zdT_dX9_block_124 rfl
theorem zdT_dX9_block_161 : zdch cX9_block [(161, (.istore 5, 2)), (163, (.iload 5, 2)), (165, (.iload_n 3, 1)), (166, (.if_icmp .ge 56, 3)), (169, (.iconst 0, 1)), (170, (.istore 6, 2)), (172, (.iload 6, 2)), (174, (.iload_n 3, 1)), (175, (.if_icmp .ge 41, 3)), (178, (.aload_n 0, 1)), (179, (.getfield 108, 3)), (182, (.bipush 11, 2)), (184, (.iload 5, 2)), (186, (.imul, 1)), (187, (.iload 6, 2)), (189, (.iadd, 1)), (190, (.aload_n 0, 1)), (191, (.aload_n 0, 1)), (192, (.getfield 112, 3)), (195, (.iload 5, 2)), (197, (.iaload, 1)), (198, (.aload_n 0, 1)), (199, (.getfield 112, 3)), (202, (.iload 6, 2)), (204, (.iaload, 1))] = true := by decide +kernel
theorem dX9_block_161 : decode cX9_block 161 = .ok (.istore 5, 2) := zdcg 0 zdT_dX9_block_161 rfl
theorem dX9_block_163 : decode cX9_block 163 = .ok (.iload 5, 2) := zdcg 1 zdT_dX9_block_161 rfl
theorem dX9_block_165 : decode cX9_block 165 = .ok (.iload_n 3, 1) := zdcg 2 zdT_dX9_block_161 rfl
theorem dX9_block_166 : decode cX9_block 166 = .ok (.if_icmp .ge 56, 3) := zdcg 3 zdT_dX9_block_161 rfl
theorem dX9_block_169 : decode cX9_block 169 = .ok (.iconst 0, 1) := zdcg 4 zdT_dX9_block_161 rfl
theorem dX9_block_170 : decode cX9_block 170 = .ok (.istore 6, 2) := zdcg 5 zdT_dX9_block_161 rfl
theorem dX9_block_172 : decode cX9_block 172 = .ok (.iload 6, 2) := zdcg 6 zdT_dX9_block_161 rfl
theorem dX9_block_174 : decode cX9_block 174 = .ok (.iload_n 3, 1) := zdcg 7 zdT_dX9_block_161 rfl
theorem dX9_block_175 : decode cX9_block 175 = .ok (.if_icmp .ge 41, 3) := zdcg 8 zdT_dX9_block_161 rfl
theorem dX9_block_178 : decode cX9_block 178 = .ok (.aload_n 0, 1) := zdcg 9 zdT_dX9_block_161 rfl
theorem dX9_block_179 : decode cX9_block 179 = .ok (.getfield 108, 3) := zdcg 10 zdT_dX9_block_161 rfl
theorem dX9_block_182 : decode cX9_block 182 = .ok (.bipush 11, 2) := zdcg 11 zdT_dX9_block_161 rfl
theorem dX9_block_184 : decode cX9_block 184 = .ok (.iload 5, 2) := zdcg 12 zdT_dX9_block_161 rfl
theorem dX9_block_186 : decode cX9_block 186 = .ok (.imul, 1) := zdcg 13 zdT_dX9_block_161 rfl
theorem dX9_block_187 : decode cX9_block 187 = .ok (.iload 6, 2) := zdcg 14 zdT_dX9_block_161 rfl
theorem dX9_block_189 : decode cX9_block 189 = .ok (.iadd, 1) := zdcg 15 zdT_dX9_block_161 rfl
theorem dX9_block_190 : decode cX9_block 190 = .ok (.aload_n 0, 1) := zdcg 16 zdT_dX9_block_161 rfl
theorem dX9_block_191 : decode cX9_block 191 = .ok (.aload_n 0, 1) := zdcg 17 zdT_dX9_block_161 rfl
theorem dX9_block_192 : decode cX9_block 192 = .ok (.getfield 112, 3) := zdcg 18 zdT_dX9_block_161 rfl
theorem dX9_block_195 : decode cX9_block 195 = .ok (.iload 5, 2) := zdcg 19 zdT_dX9_block_161 rfl
theorem dX9_block_197 : decode cX9_block 197 = .ok (.iaload, 1) := zdcg 20 zdT_dX9_block_161 rfl
theorem dX9_block_198 : decode cX9_block 198 = .ok (.aload_n 0, 1) := zdcg 21 zdT_dX9_block_161 rfl
theorem dX9_block_199 : decode cX9_block 199 = .ok (.getfield 112, 3) := zdcg 22 zdT_dX9_block_161 rfl
theorem dX9_block_202 : decode cX9_block 202 = .ok (.iload 6, 2) := zdcg 23 zdT_dX9_block_161 rfl
theorem dX9_block_204 : decode cX9_block 204 = .ok (.iaload, 1) := zdcg 24 zdT_dX9_block_161 rfl
theorem zdT_dX9_block_205 : zdch cX9_block [(205, (.invokevirtual 306, 3)), (208, (.i2l, 1)), (209, (.lastore, 1)), (210, (.iinc 6 1, 3)), (213, (.goto (-41), 3)), (216, (.iinc 5 1, 3)), (219, (.goto (-56), 3)), (222, (.aload_n 0, 1)), (223, (.iload_n 3, 1)), (224, (.invokevirtual 315, 3)), (227, (.l2i, 1)), (228, (.ireturn, 1)), (229, (.iconst (-1), 1)), (230, (.ireturn, 1))] = true := by decide +kernel
theorem dX9_block_205 : decode cX9_block 205 = .ok (.invokevirtual 306, 3) := zdcg 0 zdT_dX9_block_205 rfl
theorem dX9_block_208 : decode cX9_block 208 = .ok (.i2l, 1) := zdcg 1 zdT_dX9_block_205 rfl
theorem dX9_block_209 : decode cX9_block 209 = .ok (.lastore, 1) := zdcg 2 zdT_dX9_block_205 rfl
theorem dX9_block_210 : decode cX9_block 210 = .ok (.iinc 6 1, 3) := zdcg 3 zdT_dX9_block_205 rfl
theorem dX9_block_213 : decode cX9_block 213 = .ok (.goto (-41), 3) := zdcg 4 zdT_dX9_block_205 rfl
theorem dX9_block_216 : decode cX9_block 216 = .ok (.iinc 5 1, 3) := zdcg 5 zdT_dX9_block_205 rfl
theorem dX9_block_219 : decode cX9_block 219 = .ok (.goto (-56), 3) := zdcg 6 zdT_dX9_block_205 rfl
theorem dX9_block_222 : decode cX9_block 222 = .ok (.aload_n 0, 1) := zdcg 7 zdT_dX9_block_205 rfl
theorem dX9_block_223 : decode cX9_block 223 = .ok (.iload_n 3, 1) := zdcg 8 zdT_dX9_block_205 rfl
theorem dX9_block_224 : decode cX9_block 224 = .ok (.invokevirtual 315, 3) := zdcg 9 zdT_dX9_block_205 rfl
theorem dX9_block_227 : decode cX9_block 227 = .ok (.l2i, 1) := zdcg 10 zdT_dX9_block_205 rfl
theorem dX9_block_228 : decode cX9_block 228 = .ok (.ireturn, 1) := zdcg 11 zdT_dX9_block_205 rfl
theorem dX9_block_229 : decode cX9_block 229 = .ok (.iconst (-1), 1) := zdcg 12 zdT_dX9_block_205 rfl
theorem dX9_block_230 : decode cX9_block 230 = .ok (.ireturn, 1) := zdcg 13 zdT_dX9_block_205 rfl
theorem zdT_dX9_isSlot_0 : zdch cX9_isSlot [(0, (.iload_n 0, 1)), (1, (.i2l, 1)), (2, (.lconst 0, 1)), (3, (.ldc2_w 301, 3)), (6, (.invokestatic 283, 3)), (9, (.ireturn, 1))] = true := by decide +kernel
theorem dX9_isSlot_0 : decode cX9_isSlot 0 = .ok (.iload_n 0, 1) := zdcg 0 zdT_dX9_isSlot_0 rfl
theorem dX9_isSlot_1 : decode cX9_isSlot 1 = .ok (.i2l, 1) := zdcg 1 zdT_dX9_isSlot_0 rfl
theorem dX9_isSlot_2 : decode cX9_isSlot 2 = .ok (.lconst 0, 1) := zdcg 2 zdT_dX9_isSlot_0 rfl
theorem dX9_isSlot_3 : decode cX9_isSlot 3 = .ok (.ldc2_w 301, 3) := zdcg 3 zdT_dX9_isSlot_0 rfl
theorem dX9_isSlot_6 : decode cX9_isSlot 6 = .ok (.invokestatic 283, 3) := zdcg 4 zdT_dX9_isSlot_0 rfl
theorem dX9_isSlot_9 : decode cX9_isSlot 9 = .ok (.ireturn, 1) := zdcg 5 zdT_dX9_isSlot_0 rfl
theorem zdT_dX9_value_0 : zdch cX9_value [(0, (.iload_n 1, 1)), (1, (.invokestatic 319, 3)), (4, (.ifCond .eq 25, 3)), (7, (.aload_n 0, 1)), (8, (.iload_n 2, 1)), (9, (.invokevirtual 287, 3)), (12, (.ifCond .eq 17, 3)), (15, (.aload_n 0, 1)), (16, (.getfield 115, 3)), (19, (.bipush 11, 2)), (21, (.iload_n 1, 1)), (22, (.imul, 1)), (23, (.iload_n 2, 1)), (24, (.iadd, 1)), (25, (.laload, 1)), (26, (.goto 6, 3)), (29, (.ldc2_w 324, 3)), (32, (.lreturn, 1))] = true := by decide +kernel
theorem dX9_value_0 : decode cX9_value 0 = .ok (.iload_n 1, 1) := zdcg 0 zdT_dX9_value_0 rfl
theorem dX9_value_1 : decode cX9_value 1 = .ok (.invokestatic 319, 3) := zdcg 1 zdT_dX9_value_0 rfl
theorem dX9_value_4 : decode cX9_value 4 = .ok (.ifCond .eq 25, 3) := zdcg 2 zdT_dX9_value_0 rfl
theorem dX9_value_7 : decode cX9_value 7 = .ok (.aload_n 0, 1) := zdcg 3 zdT_dX9_value_0 rfl
theorem dX9_value_8 : decode cX9_value 8 = .ok (.iload_n 2, 1) := zdcg 4 zdT_dX9_value_0 rfl
theorem dX9_value_9 : decode cX9_value 9 = .ok (.invokevirtual 287, 3) := zdcg 5 zdT_dX9_value_0 rfl
theorem dX9_value_12 : decode cX9_value 12 = .ok (.ifCond .eq 17, 3) := zdcg 6 zdT_dX9_value_0 rfl
theorem dX9_value_15 : decode cX9_value 15 = .ok (.aload_n 0, 1) := zdcg 7 zdT_dX9_value_0 rfl
theorem dX9_value_16 : decode cX9_value 16 = .ok (.getfield 115, 3) := zdcg 8 zdT_dX9_value_0 rfl
theorem dX9_value_19 : decode cX9_value 19 = .ok (.bipush 11, 2) := zdcg 9 zdT_dX9_value_0 rfl
theorem dX9_value_21 : decode cX9_value 21 = .ok (.iload_n 1, 1) := zdcg 10 zdT_dX9_value_0 rfl
theorem dX9_value_22 : decode cX9_value 22 = .ok (.imul, 1) := zdcg 11 zdT_dX9_value_0 rfl
theorem dX9_value_23 : decode cX9_value 23 = .ok (.iload_n 2, 1) := zdcg 12 zdT_dX9_value_0 rfl
theorem dX9_value_24 : decode cX9_value 24 = .ok (.iadd, 1) := zdcg 13 zdT_dX9_value_0 rfl
theorem dX9_value_25 : decode cX9_value 25 = .ok (.laload, 1) := zdcg 14 zdT_dX9_value_0 rfl
theorem dX9_value_26 : decode cX9_value 26 = .ok (.goto 6, 3) := zdcg 15 zdT_dX9_value_0 rfl
theorem dX9_value_29 : decode cX9_value 29 = .ok (.ldc2_w 324, 3) := zdcg 16 zdT_dX9_value_0 rfl
theorem dX9_value_32 : decode cX9_value 32 = .ok (.lreturn, 1) := zdcg 17 zdT_dX9_value_0 rfl
theorem zdT_dX9_ordinarySum_0 : zdch cX9_ordinarySum [(0, (.lconst 0, 1)), (1, (.lstore_n 3, 1)), (2, (.iconst 0, 1)), (3, (.istore 5, 2)), (5, (.iload 5, 2)), (7, (.aload_n 0, 1)), (8, (.getfield 153, 3)), (11, (.if_icmp .ge 47, 3)), (14, (.lload_n 3, 1)), (15, (.aload_n 0, 1)), (16, (.getfield 115, 3)), (19, (.bipush 11, 2)), (21, (.iload_n 1, 1)), (22, (.imul, 1)), (23, (.iload 5, 2)), (25, (.iadd, 1)), (26, (.laload, 1)), (27, (.aload_n 0, 1)), (28, (.getfield 16, 3)), (31, (.iload 5, 2)), (33, (.iaload, 1)), (34, (.i2l, 1)), (35, (.lmul, 1)), (36, (.aload_n 0, 1)), (37, (.getfield 38, 3))] = true := by decide +kernel
theorem dX9_ordinarySum_0 : decode cX9_ordinarySum 0 = .ok (.lconst 0, 1) := zdcg 0 zdT_dX9_ordinarySum_0 rfl
theorem dX9_ordinarySum_1 : decode cX9_ordinarySum 1 = .ok (.lstore_n 3, 1) := zdcg 1 zdT_dX9_ordinarySum_0 rfl
theorem dX9_ordinarySum_2 : decode cX9_ordinarySum 2 = .ok (.iconst 0, 1) := zdcg 2 zdT_dX9_ordinarySum_0 rfl
theorem dX9_ordinarySum_3 : decode cX9_ordinarySum 3 = .ok (.istore 5, 2) := zdcg 3 zdT_dX9_ordinarySum_0 rfl
theorem dX9_ordinarySum_5 : decode cX9_ordinarySum 5 = .ok (.iload 5, 2) := zdcg 4 zdT_dX9_ordinarySum_0 rfl
theorem dX9_ordinarySum_7 : decode cX9_ordinarySum 7 = .ok (.aload_n 0, 1) := zdcg 5 zdT_dX9_ordinarySum_0 rfl
theorem dX9_ordinarySum_8 : decode cX9_ordinarySum 8 = .ok (.getfield 153, 3) := zdcg 6 zdT_dX9_ordinarySum_0 rfl
theorem dX9_ordinarySum_11 : decode cX9_ordinarySum 11 = .ok (.if_icmp .ge 47, 3) := zdcg 7 zdT_dX9_ordinarySum_0 rfl
theorem dX9_ordinarySum_14 : decode cX9_ordinarySum 14 = .ok (.lload_n 3, 1) := zdcg 8 zdT_dX9_ordinarySum_0 rfl
theorem dX9_ordinarySum_15 : decode cX9_ordinarySum 15 = .ok (.aload_n 0, 1) := zdcg 9 zdT_dX9_ordinarySum_0 rfl
theorem dX9_ordinarySum_16 : decode cX9_ordinarySum 16 = .ok (.getfield 115, 3) := zdcg 10 zdT_dX9_ordinarySum_0 rfl
theorem dX9_ordinarySum_19 : decode cX9_ordinarySum 19 = .ok (.bipush 11, 2) := zdcg 11 zdT_dX9_ordinarySum_0 rfl
theorem dX9_ordinarySum_21 : decode cX9_ordinarySum 21 = .ok (.iload_n 1, 1) := zdcg 12 zdT_dX9_ordinarySum_0 rfl
theorem dX9_ordinarySum_22 : decode cX9_ordinarySum 22 = .ok (.imul, 1) := zdcg 13 zdT_dX9_ordinarySum_0 rfl
theorem dX9_ordinarySum_23 : decode cX9_ordinarySum 23 = .ok (.iload 5, 2) := zdcg 14 zdT_dX9_ordinarySum_0 rfl
theorem dX9_ordinarySum_25 : decode cX9_ordinarySum 25 = .ok (.iadd, 1) := zdcg 15 zdT_dX9_ordinarySum_0 rfl
theorem dX9_ordinarySum_26 : decode cX9_ordinarySum 26 = .ok (.laload, 1) := zdcg 16 zdT_dX9_ordinarySum_0 rfl
theorem dX9_ordinarySum_27 : decode cX9_ordinarySum 27 = .ok (.aload_n 0, 1) := zdcg 17 zdT_dX9_ordinarySum_0 rfl
theorem dX9_ordinarySum_28 : decode cX9_ordinarySum 28 = .ok (.getfield 16, 3) := zdcg 18 zdT_dX9_ordinarySum_0 rfl
theorem dX9_ordinarySum_31 : decode cX9_ordinarySum 31 = .ok (.iload 5, 2) := zdcg 19 zdT_dX9_ordinarySum_0 rfl
theorem dX9_ordinarySum_33 : decode cX9_ordinarySum 33 = .ok (.iaload, 1) := zdcg 20 zdT_dX9_ordinarySum_0 rfl
theorem dX9_ordinarySum_34 : decode cX9_ordinarySum 34 = .ok (.i2l, 1) := zdcg 21 zdT_dX9_ordinarySum_0 rfl
theorem dX9_ordinarySum_35 : decode cX9_ordinarySum 35 = .ok (.lmul, 1) := zdcg 22 zdT_dX9_ordinarySum_0 rfl
theorem dX9_ordinarySum_36 : decode cX9_ordinarySum 36 = .ok (.aload_n 0, 1) := zdcg 23 zdT_dX9_ordinarySum_0 rfl
theorem dX9_ordinarySum_37 : decode cX9_ordinarySum 37 = .ok (.getfield 38, 3) := zdcg 24 zdT_dX9_ordinarySum_0 rfl
theorem zdT_dX9_ordinarySum_40 : zdch cX9_ordinarySum [(40, (.bipush 11, 2)), (42, (.iload_n 2, 1)), (43, (.imul, 1)), (44, (.iload 5, 2)), (46, (.iadd, 1)), (47, (.iaload, 1)), (48, (.i2l, 1)), (49, (.lmul, 1)), (50, (.ladd, 1)), (51, (.lstore_n 3, 1)), (52, (.iinc 5 1, 3)), (55, (.goto (-50), 3)), (58, (.lload_n 3, 1)), (59, (.lreturn, 1))] = true := by decide +kernel
theorem dX9_ordinarySum_40 : decode cX9_ordinarySum 40 = .ok (.bipush 11, 2) := zdcg 0 zdT_dX9_ordinarySum_40 rfl
theorem dX9_ordinarySum_42 : decode cX9_ordinarySum 42 = .ok (.iload_n 2, 1) := zdcg 1 zdT_dX9_ordinarySum_40 rfl
theorem dX9_ordinarySum_43 : decode cX9_ordinarySum 43 = .ok (.imul, 1) := zdcg 2 zdT_dX9_ordinarySum_40 rfl
theorem dX9_ordinarySum_44 : decode cX9_ordinarySum 44 = .ok (.iload 5, 2) := zdcg 3 zdT_dX9_ordinarySum_40 rfl
theorem dX9_ordinarySum_46 : decode cX9_ordinarySum 46 = .ok (.iadd, 1) := zdcg 4 zdT_dX9_ordinarySum_40 rfl
theorem dX9_ordinarySum_47 : decode cX9_ordinarySum 47 = .ok (.iaload, 1) := zdcg 5 zdT_dX9_ordinarySum_40 rfl
theorem dX9_ordinarySum_48 : decode cX9_ordinarySum 48 = .ok (.i2l, 1) := zdcg 6 zdT_dX9_ordinarySum_40 rfl
theorem dX9_ordinarySum_49 : decode cX9_ordinarySum 49 = .ok (.lmul, 1) := zdcg 7 zdT_dX9_ordinarySum_40 rfl
theorem dX9_ordinarySum_50 : decode cX9_ordinarySum 50 = .ok (.ladd, 1) := zdcg 8 zdT_dX9_ordinarySum_40 rfl
theorem dX9_ordinarySum_51 : decode cX9_ordinarySum 51 = .ok (.lstore_n 3, 1) := zdcg 9 zdT_dX9_ordinarySum_40 rfl
theorem dX9_ordinarySum_52 : decode cX9_ordinarySum 52 = .ok (.iinc 5 1, 3) := zdcg 10 zdT_dX9_ordinarySum_40 rfl
theorem dX9_ordinarySum_55 : decode cX9_ordinarySum 55 = .ok (.goto (-50), 3) := zdcg 11 zdT_dX9_ordinarySum_40 rfl
theorem dX9_ordinarySum_58 : decode cX9_ordinarySum 58 = .ok (.lload_n 3, 1) := zdcg 12 zdT_dX9_ordinarySum_40 rfl
theorem dX9_ordinarySum_59 : decode cX9_ordinarySum 59 = .ok (.lreturn, 1) := zdcg 13 zdT_dX9_ordinarySum_40 rfl
theorem zdT_dX9_modularSum_0 : zdch cX9_modularSum [(0, (.lconst 0, 1)), (1, (.lstore_n 3, 1)), (2, (.iconst 0, 1)), (3, (.istore 5, 2)), (5, (.iload 5, 2)), (7, (.aload_n 0, 1)), (8, (.getfield 153, 3)), (11, (.if_icmp .ge 57, 3)), (14, (.aload_n 0, 1)), (15, (.getfield 26, 3)), (18, (.iload 5, 2)), (20, (.baload, 1)), (21, (.ifCond .eq 41, 3)), (24, (.lload_n 3, 1)), (25, (.aload_n 0, 1)), (26, (.getfield 115, 3)), (29, (.bipush 11, 2)), (31, (.iload_n 1, 1)), (32, (.imul, 1)), (33, (.iload 5, 2)), (35, (.iadd, 1)), (36, (.laload, 1)), (37, (.aload_n 0, 1)), (38, (.getfield 16, 3)), (41, (.iload 5, 2))] = true := by decide +kernel
theorem dX9_modularSum_0 : decode cX9_modularSum 0 = .ok (.lconst 0, 1) := zdcg 0 zdT_dX9_modularSum_0 rfl
theorem dX9_modularSum_1 : decode cX9_modularSum 1 = .ok (.lstore_n 3, 1) := zdcg 1 zdT_dX9_modularSum_0 rfl
theorem dX9_modularSum_2 : decode cX9_modularSum 2 = .ok (.iconst 0, 1) := zdcg 2 zdT_dX9_modularSum_0 rfl
theorem dX9_modularSum_3 : decode cX9_modularSum 3 = .ok (.istore 5, 2) := zdcg 3 zdT_dX9_modularSum_0 rfl
theorem dX9_modularSum_5 : decode cX9_modularSum 5 = .ok (.iload 5, 2) := zdcg 4 zdT_dX9_modularSum_0 rfl
theorem dX9_modularSum_7 : decode cX9_modularSum 7 = .ok (.aload_n 0, 1) := zdcg 5 zdT_dX9_modularSum_0 rfl
theorem dX9_modularSum_8 : decode cX9_modularSum 8 = .ok (.getfield 153, 3) := zdcg 6 zdT_dX9_modularSum_0 rfl
theorem dX9_modularSum_11 : decode cX9_modularSum 11 = .ok (.if_icmp .ge 57, 3) := zdcg 7 zdT_dX9_modularSum_0 rfl
theorem dX9_modularSum_14 : decode cX9_modularSum 14 = .ok (.aload_n 0, 1) := zdcg 8 zdT_dX9_modularSum_0 rfl
theorem dX9_modularSum_15 : decode cX9_modularSum 15 = .ok (.getfield 26, 3) := zdcg 9 zdT_dX9_modularSum_0 rfl
theorem dX9_modularSum_18 : decode cX9_modularSum 18 = .ok (.iload 5, 2) := zdcg 10 zdT_dX9_modularSum_0 rfl
theorem dX9_modularSum_20 : decode cX9_modularSum 20 = .ok (.baload, 1) := zdcg 11 zdT_dX9_modularSum_0 rfl
theorem dX9_modularSum_21 : decode cX9_modularSum 21 = .ok (.ifCond .eq 41, 3) := zdcg 12 zdT_dX9_modularSum_0 rfl
theorem dX9_modularSum_24 : decode cX9_modularSum 24 = .ok (.lload_n 3, 1) := zdcg 13 zdT_dX9_modularSum_0 rfl
theorem dX9_modularSum_25 : decode cX9_modularSum 25 = .ok (.aload_n 0, 1) := zdcg 14 zdT_dX9_modularSum_0 rfl
theorem dX9_modularSum_26 : decode cX9_modularSum 26 = .ok (.getfield 115, 3) := zdcg 15 zdT_dX9_modularSum_0 rfl
theorem dX9_modularSum_29 : decode cX9_modularSum 29 = .ok (.bipush 11, 2) := zdcg 16 zdT_dX9_modularSum_0 rfl
theorem dX9_modularSum_31 : decode cX9_modularSum 31 = .ok (.iload_n 1, 1) := zdcg 17 zdT_dX9_modularSum_0 rfl
theorem dX9_modularSum_32 : decode cX9_modularSum 32 = .ok (.imul, 1) := zdcg 18 zdT_dX9_modularSum_0 rfl
theorem dX9_modularSum_33 : decode cX9_modularSum 33 = .ok (.iload 5, 2) := zdcg 19 zdT_dX9_modularSum_0 rfl
theorem dX9_modularSum_35 : decode cX9_modularSum 35 = .ok (.iadd, 1) := zdcg 20 zdT_dX9_modularSum_0 rfl
theorem dX9_modularSum_36 : decode cX9_modularSum 36 = .ok (.laload, 1) := zdcg 21 zdT_dX9_modularSum_0 rfl
theorem dX9_modularSum_37 : decode cX9_modularSum 37 = .ok (.aload_n 0, 1) := zdcg 22 zdT_dX9_modularSum_0 rfl
theorem dX9_modularSum_38 : decode cX9_modularSum 38 = .ok (.getfield 16, 3) := zdcg 23 zdT_dX9_modularSum_0 rfl
theorem dX9_modularSum_41 : decode cX9_modularSum 41 = .ok (.iload 5, 2) := zdcg 24 zdT_dX9_modularSum_0 rfl
theorem zdT_dX9_modularSum_43 : zdch cX9_modularSum [(43, (.iaload, 1)), (44, (.i2l, 1)), (45, (.lmul, 1)), (46, (.aload_n 0, 1)), (47, (.getfield 105, 3)), (50, (.bipush 11, 2)), (52, (.iload_n 2, 1)), (53, (.imul, 1)), (54, (.iload 5, 2)), (56, (.iadd, 1)), (57, (.iaload, 1)), (58, (.i2l, 1)), (59, (.lmul, 1)), (60, (.ladd, 1)), (61, (.lstore_n 3, 1)), (62, (.iinc 5 1, 3)), (65, (.goto (-60), 3)), (68, (.lload_n 3, 1)), (69, (.lreturn, 1))] = true := by decide +kernel
theorem dX9_modularSum_43 : decode cX9_modularSum 43 = .ok (.iaload, 1) := zdcg 0 zdT_dX9_modularSum_43 rfl
theorem dX9_modularSum_44 : decode cX9_modularSum 44 = .ok (.i2l, 1) := zdcg 1 zdT_dX9_modularSum_43 rfl
theorem dX9_modularSum_45 : decode cX9_modularSum 45 = .ok (.lmul, 1) := zdcg 2 zdT_dX9_modularSum_43 rfl
theorem dX9_modularSum_46 : decode cX9_modularSum 46 = .ok (.aload_n 0, 1) := zdcg 3 zdT_dX9_modularSum_43 rfl
theorem dX9_modularSum_47 : decode cX9_modularSum 47 = .ok (.getfield 105, 3) := zdcg 4 zdT_dX9_modularSum_43 rfl
theorem dX9_modularSum_50 : decode cX9_modularSum 50 = .ok (.bipush 11, 2) := zdcg 5 zdT_dX9_modularSum_43 rfl
theorem dX9_modularSum_52 : decode cX9_modularSum 52 = .ok (.iload_n 2, 1) := zdcg 6 zdT_dX9_modularSum_43 rfl
theorem dX9_modularSum_53 : decode cX9_modularSum 53 = .ok (.imul, 1) := zdcg 7 zdT_dX9_modularSum_43 rfl
theorem dX9_modularSum_54 : decode cX9_modularSum 54 = .ok (.iload 5, 2) := zdcg 8 zdT_dX9_modularSum_43 rfl
theorem dX9_modularSum_56 : decode cX9_modularSum 56 = .ok (.iadd, 1) := zdcg 9 zdT_dX9_modularSum_43 rfl
theorem dX9_modularSum_57 : decode cX9_modularSum 57 = .ok (.iaload, 1) := zdcg 10 zdT_dX9_modularSum_43 rfl
theorem dX9_modularSum_58 : decode cX9_modularSum 58 = .ok (.i2l, 1) := zdcg 11 zdT_dX9_modularSum_43 rfl
theorem dX9_modularSum_59 : decode cX9_modularSum 59 = .ok (.lmul, 1) := zdcg 12 zdT_dX9_modularSum_43 rfl
theorem dX9_modularSum_60 : decode cX9_modularSum 60 = .ok (.ladd, 1) := zdcg 13 zdT_dX9_modularSum_43 rfl
theorem dX9_modularSum_61 : decode cX9_modularSum 61 = .ok (.lstore_n 3, 1) := zdcg 14 zdT_dX9_modularSum_43 rfl
theorem dX9_modularSum_62 : decode cX9_modularSum 62 = .ok (.iinc 5 1, 3) := zdcg 15 zdT_dX9_modularSum_43 rfl
theorem dX9_modularSum_65 : decode cX9_modularSum 65 = .ok (.goto (-60), 3) := zdcg 16 zdT_dX9_modularSum_43 rfl
theorem dX9_modularSum_68 : decode cX9_modularSum 68 = .ok (.lload_n 3, 1) := zdcg 17 zdT_dX9_modularSum_43 rfl
theorem dX9_modularSum_69 : decode cX9_modularSum 69 = .ok (.lreturn, 1) := zdcg 18 zdT_dX9_modularSum_43 rfl
theorem zdT_dX9_divisor_0 : zdch cX9_divisor [(0, (.lload_n 0, 1)), (1, (.lconst 0, 1)), (2, (.lcmp, 1)), (3, (.ifCond .ge 8, 3)), (6, (.lload_n 0, 1)), (7, (.lneg, 1)), (8, (.goto 4, 3)), (11, (.lload_n 0, 1)), (12, (.lstore 4, 2)), (14, (.lload_n 2, 1)), (15, (.lstore 6, 2)), (17, (.lload 6, 2)), (19, (.lconst 0, 1)), (20, (.lcmp, 1)), (21, (.ifCond .eq 21, 3)), (24, (.lload 4, 2)), (26, (.lload 6, 2)), (28, (.lrem, 1)), (29, (.lstore 8, 2)), (31, (.lload 6, 2)), (33, (.lstore 4, 2)), (35, (.lload 8, 2)), (37, (.lstore 6, 2)), (39, (.goto (-22), 3)), (42, (.lload 4, 2))] = true := by decide +kernel
theorem dX9_divisor_0 : decode cX9_divisor 0 = .ok (.lload_n 0, 1) := zdcg 0 zdT_dX9_divisor_0 rfl
theorem dX9_divisor_1 : decode cX9_divisor 1 = .ok (.lconst 0, 1) := zdcg 1 zdT_dX9_divisor_0 rfl
theorem dX9_divisor_2 : decode cX9_divisor 2 = .ok (.lcmp, 1) := zdcg 2 zdT_dX9_divisor_0 rfl
theorem dX9_divisor_3 : decode cX9_divisor 3 = .ok (.ifCond .ge 8, 3) := zdcg 3 zdT_dX9_divisor_0 rfl
theorem dX9_divisor_6 : decode cX9_divisor 6 = .ok (.lload_n 0, 1) := zdcg 4 zdT_dX9_divisor_0 rfl
theorem dX9_divisor_7 : decode cX9_divisor 7 = .ok (.lneg, 1) := zdcg 5 zdT_dX9_divisor_0 rfl
theorem dX9_divisor_8 : decode cX9_divisor 8 = .ok (.goto 4, 3) := zdcg 6 zdT_dX9_divisor_0 rfl
theorem dX9_divisor_11 : decode cX9_divisor 11 = .ok (.lload_n 0, 1) := zdcg 7 zdT_dX9_divisor_0 rfl
theorem dX9_divisor_12 : decode cX9_divisor 12 = .ok (.lstore 4, 2) := zdcg 8 zdT_dX9_divisor_0 rfl
theorem dX9_divisor_14 : decode cX9_divisor 14 = .ok (.lload_n 2, 1) := zdcg 9 zdT_dX9_divisor_0 rfl
theorem dX9_divisor_15 : decode cX9_divisor 15 = .ok (.lstore 6, 2) := zdcg 10 zdT_dX9_divisor_0 rfl
theorem dX9_divisor_17 : decode cX9_divisor 17 = .ok (.lload 6, 2) := zdcg 11 zdT_dX9_divisor_0 rfl
theorem dX9_divisor_19 : decode cX9_divisor 19 = .ok (.lconst 0, 1) := zdcg 12 zdT_dX9_divisor_0 rfl
theorem dX9_divisor_20 : decode cX9_divisor 20 = .ok (.lcmp, 1) := zdcg 13 zdT_dX9_divisor_0 rfl
theorem dX9_divisor_21 : decode cX9_divisor 21 = .ok (.ifCond .eq 21, 3) := zdcg 14 zdT_dX9_divisor_0 rfl
theorem dX9_divisor_24 : decode cX9_divisor 24 = .ok (.lload 4, 2) := zdcg 15 zdT_dX9_divisor_0 rfl
theorem dX9_divisor_26 : decode cX9_divisor 26 = .ok (.lload 6, 2) := zdcg 16 zdT_dX9_divisor_0 rfl
theorem dX9_divisor_28 : decode cX9_divisor 28 = .ok (.lrem, 1) := zdcg 17 zdT_dX9_divisor_0 rfl
theorem dX9_divisor_29 : decode cX9_divisor 29 = .ok (.lstore 8, 2) := zdcg 18 zdT_dX9_divisor_0 rfl
theorem dX9_divisor_31 : decode cX9_divisor 31 = .ok (.lload 6, 2) := zdcg 19 zdT_dX9_divisor_0 rfl
theorem dX9_divisor_33 : decode cX9_divisor 33 = .ok (.lstore 4, 2) := zdcg 20 zdT_dX9_divisor_0 rfl
theorem dX9_divisor_35 : decode cX9_divisor 35 = .ok (.lload 8, 2) := zdcg 21 zdT_dX9_divisor_0 rfl
theorem dX9_divisor_37 : decode cX9_divisor 37 = .ok (.lstore 6, 2) := zdcg 22 zdT_dX9_divisor_0 rfl
theorem dX9_divisor_39 : decode cX9_divisor 39 = .ok (.goto (-22), 3) := zdcg 23 zdT_dX9_divisor_0 rfl
theorem dX9_divisor_42 : decode cX9_divisor 42 = .ok (.lload 4, 2) := zdcg 24 zdT_dX9_divisor_0 rfl
theorem zdT_dX9_divisor_44 : zdch cX9_divisor [(44, (.lreturn, 1))] = true := by decide +kernel
theorem dX9_divisor_44 : decode cX9_divisor 44 = .ok (.lreturn, 1) := zdcg 0 zdT_dX9_divisor_44 rfl
theorem zdT_dX9_parts_0 : zdch cX9_parts [(0, (.iload_n 1, 1)), (1, (.invokestatic 319, 3)), (4, (.ifCond .eq 39, 3)), (7, (.aload_n 0, 1)), (8, (.iload_n 2, 1)), (9, (.invokevirtual 287, 3)), (12, (.ifCond .eq 31, 3)), (15, (.iload_n 3, 1)), (16, (.i2l, 1)), (17, (.lconst 0, 1)), (18, (.ldc2_w 326, 3)), (21, (.invokestatic 283, 3)), (24, (.ifCond .eq 19, 3)), (27, (.iload_n 3, 1)), (28, (.iconst 2, 1)), (29, (.irem, 1)), (30, (.iconst 1, 1)), (31, (.if_icmp .ne 16, 3)), (34, (.aload_n 0, 1)), (35, (.getfield 22, 3)), (38, (.iload_n 2, 1)), (39, (.baload, 1)), (40, (.ifCond .ne 7, 3)), (43, (.ldc2_w 324, 3)), (46, (.lreturn, 1))] = true := by decide +kernel
theorem dX9_parts_0 : decode cX9_parts 0 = .ok (.iload_n 1, 1) := zdcg 0 zdT_dX9_parts_0 rfl
theorem dX9_parts_1 : decode cX9_parts 1 = .ok (.invokestatic 319, 3) := zdcg 1 zdT_dX9_parts_0 rfl
theorem dX9_parts_4 : decode cX9_parts 4 = .ok (.ifCond .eq 39, 3) := zdcg 2 zdT_dX9_parts_0 rfl
theorem dX9_parts_7 : decode cX9_parts 7 = .ok (.aload_n 0, 1) := zdcg 3 zdT_dX9_parts_0 rfl
theorem dX9_parts_8 : decode cX9_parts 8 = .ok (.iload_n 2, 1) := zdcg 4 zdT_dX9_parts_0 rfl
theorem dX9_parts_9 : decode cX9_parts 9 = .ok (.invokevirtual 287, 3) := zdcg 5 zdT_dX9_parts_0 rfl
theorem dX9_parts_12 : decode cX9_parts 12 = .ok (.ifCond .eq 31, 3) := zdcg 6 zdT_dX9_parts_0 rfl
theorem dX9_parts_15 : decode cX9_parts 15 = .ok (.iload_n 3, 1) := zdcg 7 zdT_dX9_parts_0 rfl
theorem dX9_parts_16 : decode cX9_parts 16 = .ok (.i2l, 1) := zdcg 8 zdT_dX9_parts_0 rfl
theorem dX9_parts_17 : decode cX9_parts 17 = .ok (.lconst 0, 1) := zdcg 9 zdT_dX9_parts_0 rfl
theorem dX9_parts_18 : decode cX9_parts 18 = .ok (.ldc2_w 326, 3) := zdcg 10 zdT_dX9_parts_0 rfl
theorem dX9_parts_21 : decode cX9_parts 21 = .ok (.invokestatic 283, 3) := zdcg 11 zdT_dX9_parts_0 rfl
theorem dX9_parts_24 : decode cX9_parts 24 = .ok (.ifCond .eq 19, 3) := zdcg 12 zdT_dX9_parts_0 rfl
theorem dX9_parts_27 : decode cX9_parts 27 = .ok (.iload_n 3, 1) := zdcg 13 zdT_dX9_parts_0 rfl
theorem dX9_parts_28 : decode cX9_parts 28 = .ok (.iconst 2, 1) := zdcg 14 zdT_dX9_parts_0 rfl
theorem dX9_parts_29 : decode cX9_parts 29 = .ok (.irem, 1) := zdcg 15 zdT_dX9_parts_0 rfl
theorem dX9_parts_30 : decode cX9_parts 30 = .ok (.iconst 1, 1) := zdcg 16 zdT_dX9_parts_0 rfl
theorem dX9_parts_31 : decode cX9_parts 31 = .ok (.if_icmp .ne 16, 3) := zdcg 17 zdT_dX9_parts_0 rfl
theorem dX9_parts_34 : decode cX9_parts 34 = .ok (.aload_n 0, 1) := zdcg 18 zdT_dX9_parts_0 rfl
theorem dX9_parts_35 : decode cX9_parts 35 = .ok (.getfield 22, 3) := zdcg 19 zdT_dX9_parts_0 rfl
theorem dX9_parts_38 : decode cX9_parts 38 = .ok (.iload_n 2, 1) := zdcg 20 zdT_dX9_parts_0 rfl
theorem dX9_parts_39 : decode cX9_parts 39 = .ok (.baload, 1) := zdcg 21 zdT_dX9_parts_0 rfl
theorem dX9_parts_40 : decode cX9_parts 40 = .ok (.ifCond .ne 7, 3) := zdcg 22 zdT_dX9_parts_0 rfl
theorem dX9_parts_43 : decode cX9_parts 43 = .ok (.ldc2_w 324, 3) := zdcg 23 zdT_dX9_parts_0 rfl
theorem dX9_parts_46 : decode cX9_parts 46 = .ok (.lreturn, 1) := zdcg 24 zdT_dX9_parts_0 rfl
theorem zdT_dX9_parts_47 : zdch cX9_parts [(47, (.iload_n 3, 1)), (48, (.iconst 2, 1)), (49, (.irem, 1)), (50, (.ifCond .ne 12, 3)), (53, (.aload_n 0, 1)), (54, (.iload_n 1, 1)), (55, (.iload_n 2, 1)), (56, (.invokevirtual 328, 3)), (59, (.goto 9, 3)), (62, (.aload_n 0, 1)), (63, (.iload_n 1, 1)), (64, (.iload_n 2, 1)), (65, (.invokevirtual 332, 3)), (68, (.lstore 4, 2)), (70, (.lload 4, 2)), (72, (.aload_n 0, 1)), (73, (.getfield 166, 3)), (76, (.i2l, 1)), (77, (.invokestatic 335, 3)), (80, (.lstore 6, 2)), (82, (.iload_n 3, 1)), (83, (.iconst 2, 1)), (84, (.if_icmp .ge 11, 3)), (87, (.lload 4, 2)), (89, (.lload 6, 2))] = true := by decide +kernel
theorem dX9_parts_47 : decode cX9_parts 47 = .ok (.iload_n 3, 1) := zdcg 0 zdT_dX9_parts_47 rfl
theorem dX9_parts_48 : decode cX9_parts 48 = .ok (.iconst 2, 1) := zdcg 1 zdT_dX9_parts_47 rfl
theorem dX9_parts_49 : decode cX9_parts 49 = .ok (.irem, 1) := zdcg 2 zdT_dX9_parts_47 rfl
theorem dX9_parts_50 : decode cX9_parts 50 = .ok (.ifCond .ne 12, 3) := zdcg 3 zdT_dX9_parts_47 rfl
theorem dX9_parts_53 : decode cX9_parts 53 = .ok (.aload_n 0, 1) := zdcg 4 zdT_dX9_parts_47 rfl
theorem dX9_parts_54 : decode cX9_parts 54 = .ok (.iload_n 1, 1) := zdcg 5 zdT_dX9_parts_47 rfl
theorem dX9_parts_55 : decode cX9_parts 55 = .ok (.iload_n 2, 1) := zdcg 6 zdT_dX9_parts_47 rfl
theorem dX9_parts_56 : decode cX9_parts 56 = .ok (.invokevirtual 328, 3) := zdcg 7 zdT_dX9_parts_47 rfl
theorem dX9_parts_59 : decode cX9_parts 59 = .ok (.goto 9, 3) := zdcg 8 zdT_dX9_parts_47 rfl
theorem dX9_parts_62 : decode cX9_parts 62 = .ok (.aload_n 0, 1) := zdcg 9 zdT_dX9_parts_47 rfl
theorem dX9_parts_63 : decode cX9_parts 63 = .ok (.iload_n 1, 1) := zdcg 10 zdT_dX9_parts_47 rfl
theorem dX9_parts_64 : decode cX9_parts 64 = .ok (.iload_n 2, 1) := zdcg 11 zdT_dX9_parts_47 rfl
theorem dX9_parts_65 : decode cX9_parts 65 = .ok (.invokevirtual 332, 3) := zdcg 12 zdT_dX9_parts_47 rfl
theorem dX9_parts_68 : decode cX9_parts 68 = .ok (.lstore 4, 2) := zdcg 13 zdT_dX9_parts_47 rfl
theorem dX9_parts_70 : decode cX9_parts 70 = .ok (.lload 4, 2) := zdcg 14 zdT_dX9_parts_47 rfl
theorem dX9_parts_72 : decode cX9_parts 72 = .ok (.aload_n 0, 1) := zdcg 15 zdT_dX9_parts_47 rfl
theorem dX9_parts_73 : decode cX9_parts 73 = .ok (.getfield 166, 3) := zdcg 16 zdT_dX9_parts_47 rfl
theorem dX9_parts_76 : decode cX9_parts 76 = .ok (.i2l, 1) := zdcg 17 zdT_dX9_parts_47 rfl
theorem dX9_parts_77 : decode cX9_parts 77 = .ok (.invokestatic 335, 3) := zdcg 18 zdT_dX9_parts_47 rfl
theorem dX9_parts_80 : decode cX9_parts 80 = .ok (.lstore 6, 2) := zdcg 19 zdT_dX9_parts_47 rfl
theorem dX9_parts_82 : decode cX9_parts 82 = .ok (.iload_n 3, 1) := zdcg 20 zdT_dX9_parts_47 rfl
theorem dX9_parts_83 : decode cX9_parts 83 = .ok (.iconst 2, 1) := zdcg 21 zdT_dX9_parts_47 rfl
theorem dX9_parts_84 : decode cX9_parts 84 = .ok (.if_icmp .ge 11, 3) := zdcg 22 zdT_dX9_parts_47 rfl
theorem dX9_parts_87 : decode cX9_parts 87 = .ok (.lload 4, 2) := zdcg 23 zdT_dX9_parts_47 rfl
theorem dX9_parts_89 : decode cX9_parts 89 = .ok (.lload 6, 2) := zdcg 24 zdT_dX9_parts_47 rfl
theorem zdT_dX9_parts_91 : zdch cX9_parts [(91, (.ldiv, 1)), (92, (.goto 11, 3)), (95, (.aload_n 0, 1)), (96, (.getfield 166, 3)), (99, (.i2l, 1)), (100, (.lload 6, 2)), (102, (.ldiv, 1)), (103, (.lreturn, 1))] = true := by decide +kernel
theorem dX9_parts_91 : decode cX9_parts 91 = .ok (.ldiv, 1) := zdcg 0 zdT_dX9_parts_91 rfl
theorem dX9_parts_92 : decode cX9_parts 92 = .ok (.goto 11, 3) := zdcg 1 zdT_dX9_parts_91 rfl
theorem dX9_parts_95 : decode cX9_parts 95 = .ok (.aload_n 0, 1) := zdcg 2 zdT_dX9_parts_91 rfl
theorem dX9_parts_96 : decode cX9_parts 96 = .ok (.getfield 166, 3) := zdcg 3 zdT_dX9_parts_91 rfl
theorem dX9_parts_99 : decode cX9_parts 99 = .ok (.i2l, 1) := zdcg 4 zdT_dX9_parts_91 rfl
theorem dX9_parts_100 : decode cX9_parts 100 = .ok (.lload 6, 2) := zdcg 5 zdT_dX9_parts_91 rfl
theorem dX9_parts_102 : decode cX9_parts 102 = .ok (.ldiv, 1) := zdcg 6 zdT_dX9_parts_91 rfl
theorem dX9_parts_103 : decode cX9_parts 103 = .ok (.lreturn, 1) := zdcg 7 zdT_dX9_parts_91 rfl
theorem zdT_dX9_inner_0 : zdch cX9_inner [(0, (.iload_n 1, 1)), (1, (.invokestatic 319, 3)), (4, (.ifCond .eq 10, 3)), (7, (.iload_n 2, 1)), (8, (.invokestatic 319, 3)), (11, (.ifCond .ne 7, 3)), (14, (.ldc2_w 339, 3)), (17, (.lreturn, 1)), (18, (.lconst 0, 1)), (19, (.lstore_n 3, 1)), (20, (.iconst 0, 1)), (21, (.istore 5, 2)), (23, (.iload 5, 2)), (25, (.aload_n 0, 1)), (26, (.getfield 153, 3)), (29, (.if_icmp .ge 46, 3)), (32, (.lload_n 3, 1)), (33, (.aload_n 0, 1)), (34, (.getfield 115, 3)), (37, (.bipush 11, 2)), (39, (.iload_n 1, 1)), (40, (.imul, 1)), (41, (.iload 5, 2)), (43, (.iadd, 1)), (44, (.laload, 1))] = true := by decide +kernel
theorem dX9_inner_0 : decode cX9_inner 0 = .ok (.iload_n 1, 1) := zdcg 0 zdT_dX9_inner_0 rfl
theorem dX9_inner_1 : decode cX9_inner 1 = .ok (.invokestatic 319, 3) := zdcg 1 zdT_dX9_inner_0 rfl
theorem dX9_inner_4 : decode cX9_inner 4 = .ok (.ifCond .eq 10, 3) := zdcg 2 zdT_dX9_inner_0 rfl
theorem dX9_inner_7 : decode cX9_inner 7 = .ok (.iload_n 2, 1) := zdcg 3 zdT_dX9_inner_0 rfl
theorem dX9_inner_8 : decode cX9_inner 8 = .ok (.invokestatic 319, 3) := zdcg 4 zdT_dX9_inner_0 rfl
theorem dX9_inner_11 : decode cX9_inner 11 = .ok (.ifCond .ne 7, 3) := zdcg 5 zdT_dX9_inner_0 rfl
theorem dX9_inner_14 : decode cX9_inner 14 = .ok (.ldc2_w 339, 3) := zdcg 6 zdT_dX9_inner_0 rfl
theorem dX9_inner_17 : decode cX9_inner 17 = .ok (.lreturn, 1) := zdcg 7 zdT_dX9_inner_0 rfl
theorem dX9_inner_18 : decode cX9_inner 18 = .ok (.lconst 0, 1) := zdcg 8 zdT_dX9_inner_0 rfl
theorem dX9_inner_19 : decode cX9_inner 19 = .ok (.lstore_n 3, 1) := zdcg 9 zdT_dX9_inner_0 rfl
theorem dX9_inner_20 : decode cX9_inner 20 = .ok (.iconst 0, 1) := zdcg 10 zdT_dX9_inner_0 rfl
theorem dX9_inner_21 : decode cX9_inner 21 = .ok (.istore 5, 2) := zdcg 11 zdT_dX9_inner_0 rfl
theorem dX9_inner_23 : decode cX9_inner 23 = .ok (.iload 5, 2) := zdcg 12 zdT_dX9_inner_0 rfl
theorem dX9_inner_25 : decode cX9_inner 25 = .ok (.aload_n 0, 1) := zdcg 13 zdT_dX9_inner_0 rfl
theorem dX9_inner_26 : decode cX9_inner 26 = .ok (.getfield 153, 3) := zdcg 14 zdT_dX9_inner_0 rfl
theorem dX9_inner_29 : decode cX9_inner 29 = .ok (.if_icmp .ge 46, 3) := zdcg 15 zdT_dX9_inner_0 rfl
theorem dX9_inner_32 : decode cX9_inner 32 = .ok (.lload_n 3, 1) := zdcg 16 zdT_dX9_inner_0 rfl
theorem dX9_inner_33 : decode cX9_inner 33 = .ok (.aload_n 0, 1) := zdcg 17 zdT_dX9_inner_0 rfl
theorem dX9_inner_34 : decode cX9_inner 34 = .ok (.getfield 115, 3) := zdcg 18 zdT_dX9_inner_0 rfl
theorem dX9_inner_37 : decode cX9_inner 37 = .ok (.bipush 11, 2) := zdcg 19 zdT_dX9_inner_0 rfl
theorem dX9_inner_39 : decode cX9_inner 39 = .ok (.iload_n 1, 1) := zdcg 20 zdT_dX9_inner_0 rfl
theorem dX9_inner_40 : decode cX9_inner 40 = .ok (.imul, 1) := zdcg 21 zdT_dX9_inner_0 rfl
theorem dX9_inner_41 : decode cX9_inner 41 = .ok (.iload 5, 2) := zdcg 22 zdT_dX9_inner_0 rfl
theorem dX9_inner_43 : decode cX9_inner 43 = .ok (.iadd, 1) := zdcg 23 zdT_dX9_inner_0 rfl
theorem dX9_inner_44 : decode cX9_inner 44 = .ok (.laload, 1) := zdcg 24 zdT_dX9_inner_0 rfl
theorem zdT_dX9_inner_45 : zdch cX9_inner [(45, (.aload_n 0, 1)), (46, (.getfield 115, 3)), (49, (.bipush 11, 2)), (51, (.iload_n 2, 1)), (52, (.imul, 1)), (53, (.iload 5, 2)), (55, (.iadd, 1)), (56, (.laload, 1)), (57, (.lmul, 1)), (58, (.aload_n 0, 1)), (59, (.getfield 16, 3)), (62, (.iload 5, 2)), (64, (.iaload, 1)), (65, (.i2l, 1)), (66, (.lmul, 1)), (67, (.ladd, 1)), (68, (.lstore_n 3, 1)), (69, (.iinc 5 1, 3)), (72, (.goto (-49), 3)), (75, (.lload_n 3, 1)), (76, (.lreturn, 1))] = true := by decide +kernel
theorem dX9_inner_45 : decode cX9_inner 45 = .ok (.aload_n 0, 1) := zdcg 0 zdT_dX9_inner_45 rfl
theorem dX9_inner_46 : decode cX9_inner 46 = .ok (.getfield 115, 3) := zdcg 1 zdT_dX9_inner_45 rfl
theorem dX9_inner_49 : decode cX9_inner 49 = .ok (.bipush 11, 2) := zdcg 2 zdT_dX9_inner_45 rfl
theorem dX9_inner_51 : decode cX9_inner 51 = .ok (.iload_n 2, 1) := zdcg 3 zdT_dX9_inner_45 rfl
theorem dX9_inner_52 : decode cX9_inner 52 = .ok (.imul, 1) := zdcg 4 zdT_dX9_inner_45 rfl
theorem dX9_inner_53 : decode cX9_inner 53 = .ok (.iload 5, 2) := zdcg 5 zdT_dX9_inner_45 rfl
theorem dX9_inner_55 : decode cX9_inner 55 = .ok (.iadd, 1) := zdcg 6 zdT_dX9_inner_45 rfl
theorem dX9_inner_56 : decode cX9_inner 56 = .ok (.laload, 1) := zdcg 7 zdT_dX9_inner_45 rfl
theorem dX9_inner_57 : decode cX9_inner 57 = .ok (.lmul, 1) := zdcg 8 zdT_dX9_inner_45 rfl
theorem dX9_inner_58 : decode cX9_inner 58 = .ok (.aload_n 0, 1) := zdcg 9 zdT_dX9_inner_45 rfl
theorem dX9_inner_59 : decode cX9_inner 59 = .ok (.getfield 16, 3) := zdcg 10 zdT_dX9_inner_45 rfl
theorem dX9_inner_62 : decode cX9_inner 62 = .ok (.iload 5, 2) := zdcg 11 zdT_dX9_inner_45 rfl
theorem dX9_inner_64 : decode cX9_inner 64 = .ok (.iaload, 1) := zdcg 12 zdT_dX9_inner_45 rfl
theorem dX9_inner_65 : decode cX9_inner 65 = .ok (.i2l, 1) := zdcg 13 zdT_dX9_inner_45 rfl
theorem dX9_inner_66 : decode cX9_inner 66 = .ok (.lmul, 1) := zdcg 14 zdT_dX9_inner_45 rfl
theorem dX9_inner_67 : decode cX9_inner 67 = .ok (.ladd, 1) := zdcg 15 zdT_dX9_inner_45 rfl
theorem dX9_inner_68 : decode cX9_inner 68 = .ok (.lstore_n 3, 1) := zdcg 16 zdT_dX9_inner_45 rfl
theorem dX9_inner_69 : decode cX9_inner 69 = .ok (.iinc 5 1, 3) := zdcg 17 zdT_dX9_inner_45 rfl
theorem dX9_inner_72 : decode cX9_inner 72 = .ok (.goto (-49), 3) := zdcg 18 zdT_dX9_inner_45 rfl
theorem dX9_inner_75 : decode cX9_inner 75 = .ok (.lload_n 3, 1) := zdcg 19 zdT_dX9_inner_45 rfl
theorem dX9_inner_76 : decode cX9_inner 76 = .ok (.lreturn, 1) := zdcg 20 zdT_dX9_inner_45 rfl
theorem zdT_dX9_areWhole_0 : zdch cX9_areWhole [(0, (.iconst 0, 1)), (1, (.istore 4, 2)), (3, (.iload 4, 2)), (5, (.aload_n 0, 1)), (6, (.getfield 153, 3)), (9, (.if_icmp .ge 75, 3)), (12, (.iload_n 2, 1)), (13, (.ifCond .eq 16, 3)), (16, (.aload_n 0, 1)), (17, (.getfield 22, 3)), (20, (.iload 4, 2)), (22, (.baload, 1)), (23, (.ifCond .ne 6, 3)), (26, (.goto 52, 3)), (29, (.iload_n 2, 1)), (30, (.ifCond .eq 13, 3)), (33, (.aload_n 0, 1)), (34, (.iload_n 1, 1)), (35, (.iload 4, 2)), (37, (.invokevirtual 332, 3)), (40, (.goto 10, 3)), (43, (.aload_n 0, 1)), (44, (.iload_n 1, 1)), (45, (.iload 4, 2)), (47, (.invokevirtual 328, 3))] = true := by decide +kernel
theorem dX9_areWhole_0 : decode cX9_areWhole 0 = .ok (.iconst 0, 1) := zdcg 0 zdT_dX9_areWhole_0 rfl
theorem dX9_areWhole_1 : decode cX9_areWhole 1 = .ok (.istore 4, 2) := zdcg 1 zdT_dX9_areWhole_0 rfl
theorem dX9_areWhole_3 : decode cX9_areWhole 3 = .ok (.iload 4, 2) := zdcg 2 zdT_dX9_areWhole_0 rfl
theorem dX9_areWhole_5 : decode cX9_areWhole 5 = .ok (.aload_n 0, 1) := zdcg 3 zdT_dX9_areWhole_0 rfl
theorem dX9_areWhole_6 : decode cX9_areWhole 6 = .ok (.getfield 153, 3) := zdcg 4 zdT_dX9_areWhole_0 rfl
theorem dX9_areWhole_9 : decode cX9_areWhole 9 = .ok (.if_icmp .ge 75, 3) := zdcg 5 zdT_dX9_areWhole_0 rfl
theorem dX9_areWhole_12 : decode cX9_areWhole 12 = .ok (.iload_n 2, 1) := zdcg 6 zdT_dX9_areWhole_0 rfl
theorem dX9_areWhole_13 : decode cX9_areWhole 13 = .ok (.ifCond .eq 16, 3) := zdcg 7 zdT_dX9_areWhole_0 rfl
theorem dX9_areWhole_16 : decode cX9_areWhole 16 = .ok (.aload_n 0, 1) := zdcg 8 zdT_dX9_areWhole_0 rfl
theorem dX9_areWhole_17 : decode cX9_areWhole 17 = .ok (.getfield 22, 3) := zdcg 9 zdT_dX9_areWhole_0 rfl
theorem dX9_areWhole_20 : decode cX9_areWhole 20 = .ok (.iload 4, 2) := zdcg 10 zdT_dX9_areWhole_0 rfl
theorem dX9_areWhole_22 : decode cX9_areWhole 22 = .ok (.baload, 1) := zdcg 11 zdT_dX9_areWhole_0 rfl
theorem dX9_areWhole_23 : decode cX9_areWhole 23 = .ok (.ifCond .ne 6, 3) := zdcg 12 zdT_dX9_areWhole_0 rfl
theorem dX9_areWhole_26 : decode cX9_areWhole 26 = .ok (.goto 52, 3) := zdcg 13 zdT_dX9_areWhole_0 rfl
theorem dX9_areWhole_29 : decode cX9_areWhole 29 = .ok (.iload_n 2, 1) := zdcg 14 zdT_dX9_areWhole_0 rfl
theorem dX9_areWhole_30 : decode cX9_areWhole 30 = .ok (.ifCond .eq 13, 3) := zdcg 15 zdT_dX9_areWhole_0 rfl
theorem dX9_areWhole_33 : decode cX9_areWhole 33 = .ok (.aload_n 0, 1) := zdcg 16 zdT_dX9_areWhole_0 rfl
theorem dX9_areWhole_34 : decode cX9_areWhole 34 = .ok (.iload_n 1, 1) := zdcg 17 zdT_dX9_areWhole_0 rfl
theorem dX9_areWhole_35 : decode cX9_areWhole 35 = .ok (.iload 4, 2) := zdcg 18 zdT_dX9_areWhole_0 rfl
theorem dX9_areWhole_37 : decode cX9_areWhole 37 = .ok (.invokevirtual 332, 3) := zdcg 19 zdT_dX9_areWhole_0 rfl
theorem dX9_areWhole_40 : decode cX9_areWhole 40 = .ok (.goto 10, 3) := zdcg 20 zdT_dX9_areWhole_0 rfl
theorem dX9_areWhole_43 : decode cX9_areWhole 43 = .ok (.aload_n 0, 1) := zdcg 21 zdT_dX9_areWhole_0 rfl
theorem dX9_areWhole_44 : decode cX9_areWhole 44 = .ok (.iload_n 1, 1) := zdcg 22 zdT_dX9_areWhole_0 rfl
theorem dX9_areWhole_45 : decode cX9_areWhole 45 = .ok (.iload 4, 2) := zdcg 23 zdT_dX9_areWhole_0 rfl
theorem dX9_areWhole_47 : decode cX9_areWhole 47 = .ok (.invokevirtual 328, 3) := zdcg 24 zdT_dX9_areWhole_0 rfl
theorem zdT_dX9_areWhole_50 : zdch cX9_areWhole [(50, (.lstore 5, 2)), (52, (.lload 5, 2)), (54, (.aload_n 0, 1)), (55, (.getfield 166, 3)), (58, (.i2l, 1)), (59, (.lrem, 1)), (60, (.lconst 0, 1)), (61, (.lcmp, 1)), (62, (.ifCond .ne 14, 3)), (65, (.iload_n 3, 1)), (66, (.ifCond .eq 12, 3)), (69, (.lload 5, 2)), (71, (.lconst 0, 1)), (72, (.lcmp, 1)), (73, (.ifCond .ge 5, 3)), (76, (.iconst 0, 1)), (77, (.ireturn, 1)), (78, (.iinc 4 1, 3)), (81, (.goto (-78), 3)), (84, (.iconst 1, 1)), (85, (.ireturn, 1))] = true := by decide +kernel
theorem dX9_areWhole_50 : decode cX9_areWhole 50 = .ok (.lstore 5, 2) := zdcg 0 zdT_dX9_areWhole_50 rfl
theorem dX9_areWhole_52 : decode cX9_areWhole 52 = .ok (.lload 5, 2) := zdcg 1 zdT_dX9_areWhole_50 rfl
theorem dX9_areWhole_54 : decode cX9_areWhole 54 = .ok (.aload_n 0, 1) := zdcg 2 zdT_dX9_areWhole_50 rfl
theorem dX9_areWhole_55 : decode cX9_areWhole 55 = .ok (.getfield 166, 3) := zdcg 3 zdT_dX9_areWhole_50 rfl
theorem dX9_areWhole_58 : decode cX9_areWhole 58 = .ok (.i2l, 1) := zdcg 4 zdT_dX9_areWhole_50 rfl
theorem dX9_areWhole_59 : decode cX9_areWhole 59 = .ok (.lrem, 1) := zdcg 5 zdT_dX9_areWhole_50 rfl
theorem dX9_areWhole_60 : decode cX9_areWhole 60 = .ok (.lconst 0, 1) := zdcg 6 zdT_dX9_areWhole_50 rfl
theorem dX9_areWhole_61 : decode cX9_areWhole 61 = .ok (.lcmp, 1) := zdcg 7 zdT_dX9_areWhole_50 rfl
theorem dX9_areWhole_62 : decode cX9_areWhole 62 = .ok (.ifCond .ne 14, 3) := zdcg 8 zdT_dX9_areWhole_50 rfl
theorem dX9_areWhole_65 : decode cX9_areWhole 65 = .ok (.iload_n 3, 1) := zdcg 9 zdT_dX9_areWhole_50 rfl
theorem dX9_areWhole_66 : decode cX9_areWhole 66 = .ok (.ifCond .eq 12, 3) := zdcg 10 zdT_dX9_areWhole_50 rfl
theorem dX9_areWhole_69 : decode cX9_areWhole 69 = .ok (.lload 5, 2) := zdcg 11 zdT_dX9_areWhole_50 rfl
theorem dX9_areWhole_71 : decode cX9_areWhole 71 = .ok (.lconst 0, 1) := zdcg 12 zdT_dX9_areWhole_50 rfl
theorem dX9_areWhole_72 : decode cX9_areWhole 72 = .ok (.lcmp, 1) := zdcg 13 zdT_dX9_areWhole_50 rfl
theorem dX9_areWhole_73 : decode cX9_areWhole 73 = .ok (.ifCond .ge 5, 3) := zdcg 14 zdT_dX9_areWhole_50 rfl
theorem dX9_areWhole_76 : decode cX9_areWhole 76 = .ok (.iconst 0, 1) := zdcg 15 zdT_dX9_areWhole_50 rfl
theorem dX9_areWhole_77 : decode cX9_areWhole 77 = .ok (.ireturn, 1) := zdcg 16 zdT_dX9_areWhole_50 rfl
theorem dX9_areWhole_78 : decode cX9_areWhole 78 = .ok (.iinc 4 1, 3) := zdcg 17 zdT_dX9_areWhole_50 rfl
theorem dX9_areWhole_81 : decode cX9_areWhole 81 = .ok (.goto (-78), 3) := zdcg 18 zdT_dX9_areWhole_50 rfl
theorem dX9_areWhole_84 : decode cX9_areWhole 84 = .ok (.iconst 1, 1) := zdcg 19 zdT_dX9_areWhole_50 rfl
theorem dX9_areWhole_85 : decode cX9_areWhole 85 = .ok (.ireturn, 1) := zdcg 20 zdT_dX9_areWhole_50 rfl
theorem zdT_dX9_kind_0 : zdch cX9_kind [(0, (.iload_n 1, 1)), (1, (.invokestatic 319, 3)), (4, (.ifCond .eq 15, 3)), (7, (.iload_n 2, 1)), (8, (.i2l, 1)), (9, (.lconst 0, 1)), (10, (.ldc2_w 341, 3)), (13, (.invokestatic 283, 3)), (16, (.ifCond .ne 5, 3)), (19, (.iconst (-1), 1)), (20, (.ireturn, 1)), (21, (.iload_n 2, 1)), (22, (.ifCond .le 33, 3)), (25, (.aload_n 0, 1)), (26, (.iload_n 1, 1)), (27, (.iload_n 2, 1)), (28, (.iconst 2, 1)), (29, (.if_icmp .le 7, 3)), (32, (.iconst 1, 1)), (33, (.goto 4, 3)), (36, (.iconst 0, 1)), (37, (.iload_n 2, 1)), (38, (.iconst 2, 1)), (39, (.irem, 1)), (40, (.ifCond .ne 7, 3))] = true := by decide +kernel
theorem dX9_kind_0 : decode cX9_kind 0 = .ok (.iload_n 1, 1) := zdcg 0 zdT_dX9_kind_0 rfl
theorem dX9_kind_1 : decode cX9_kind 1 = .ok (.invokestatic 319, 3) := zdcg 1 zdT_dX9_kind_0 rfl
theorem dX9_kind_4 : decode cX9_kind 4 = .ok (.ifCond .eq 15, 3) := zdcg 2 zdT_dX9_kind_0 rfl
theorem dX9_kind_7 : decode cX9_kind 7 = .ok (.iload_n 2, 1) := zdcg 3 zdT_dX9_kind_0 rfl
theorem dX9_kind_8 : decode cX9_kind 8 = .ok (.i2l, 1) := zdcg 4 zdT_dX9_kind_0 rfl
theorem dX9_kind_9 : decode cX9_kind 9 = .ok (.lconst 0, 1) := zdcg 5 zdT_dX9_kind_0 rfl
theorem dX9_kind_10 : decode cX9_kind 10 = .ok (.ldc2_w 341, 3) := zdcg 6 zdT_dX9_kind_0 rfl
theorem dX9_kind_13 : decode cX9_kind 13 = .ok (.invokestatic 283, 3) := zdcg 7 zdT_dX9_kind_0 rfl
theorem dX9_kind_16 : decode cX9_kind 16 = .ok (.ifCond .ne 5, 3) := zdcg 8 zdT_dX9_kind_0 rfl
theorem dX9_kind_19 : decode cX9_kind 19 = .ok (.iconst (-1), 1) := zdcg 9 zdT_dX9_kind_0 rfl
theorem dX9_kind_20 : decode cX9_kind 20 = .ok (.ireturn, 1) := zdcg 10 zdT_dX9_kind_0 rfl
theorem dX9_kind_21 : decode cX9_kind 21 = .ok (.iload_n 2, 1) := zdcg 11 zdT_dX9_kind_0 rfl
theorem dX9_kind_22 : decode cX9_kind 22 = .ok (.ifCond .le 33, 3) := zdcg 12 zdT_dX9_kind_0 rfl
theorem dX9_kind_25 : decode cX9_kind 25 = .ok (.aload_n 0, 1) := zdcg 13 zdT_dX9_kind_0 rfl
theorem dX9_kind_26 : decode cX9_kind 26 = .ok (.iload_n 1, 1) := zdcg 14 zdT_dX9_kind_0 rfl
theorem dX9_kind_27 : decode cX9_kind 27 = .ok (.iload_n 2, 1) := zdcg 15 zdT_dX9_kind_0 rfl
theorem dX9_kind_28 : decode cX9_kind 28 = .ok (.iconst 2, 1) := zdcg 16 zdT_dX9_kind_0 rfl
theorem dX9_kind_29 : decode cX9_kind 29 = .ok (.if_icmp .le 7, 3) := zdcg 17 zdT_dX9_kind_0 rfl
theorem dX9_kind_32 : decode cX9_kind 32 = .ok (.iconst 1, 1) := zdcg 18 zdT_dX9_kind_0 rfl
theorem dX9_kind_33 : decode cX9_kind 33 = .ok (.goto 4, 3) := zdcg 19 zdT_dX9_kind_0 rfl
theorem dX9_kind_36 : decode cX9_kind 36 = .ok (.iconst 0, 1) := zdcg 20 zdT_dX9_kind_0 rfl
theorem dX9_kind_37 : decode cX9_kind 37 = .ok (.iload_n 2, 1) := zdcg 21 zdT_dX9_kind_0 rfl
theorem dX9_kind_38 : decode cX9_kind 38 = .ok (.iconst 2, 1) := zdcg 22 zdT_dX9_kind_0 rfl
theorem dX9_kind_39 : decode cX9_kind 39 = .ok (.irem, 1) := zdcg 23 zdT_dX9_kind_0 rfl
theorem dX9_kind_40 : decode cX9_kind 40 = .ok (.ifCond .ne 7, 3) := zdcg 24 zdT_dX9_kind_0 rfl
theorem zdT_dX9_kind_43 : zdch cX9_kind [(43, (.iconst 1, 1)), (44, (.goto 4, 3)), (47, (.iconst 0, 1)), (48, (.invokevirtual 343, 3)), (51, (.invokestatic 187, 3)), (54, (.ireturn, 1)), (55, (.iconst 1, 1)), (56, (.istore_n 3, 1)), (57, (.iconst 0, 1)), (58, (.istore 4, 2)), (60, (.iload 4, 2)), (62, (.aload_n 0, 1)), (63, (.getfield 153, 3)), (66, (.if_icmp .ge 46, 3)), (69, (.iload_n 3, 1)), (70, (.ifCond .eq 34, 3)), (73, (.aload_n 0, 1)), (74, (.getfield 26, 3)), (77, (.iload 4, 2)), (79, (.baload, 1)), (80, (.ifCond .ne 20, 3)), (83, (.aload_n 0, 1)), (84, (.getfield 115, 3)), (87, (.bipush 11, 2)), (89, (.iload_n 1, 1))] = true := by decide +kernel
theorem dX9_kind_43 : decode cX9_kind 43 = .ok (.iconst 1, 1) := zdcg 0 zdT_dX9_kind_43 rfl
theorem dX9_kind_44 : decode cX9_kind 44 = .ok (.goto 4, 3) := zdcg 1 zdT_dX9_kind_43 rfl
theorem dX9_kind_47 : decode cX9_kind 47 = .ok (.iconst 0, 1) := zdcg 2 zdT_dX9_kind_43 rfl
theorem dX9_kind_48 : decode cX9_kind 48 = .ok (.invokevirtual 343, 3) := zdcg 3 zdT_dX9_kind_43 rfl
theorem dX9_kind_51 : decode cX9_kind 51 = .ok (.invokestatic 187, 3) := zdcg 4 zdT_dX9_kind_43 rfl
theorem dX9_kind_54 : decode cX9_kind 54 = .ok (.ireturn, 1) := zdcg 5 zdT_dX9_kind_43 rfl
theorem dX9_kind_55 : decode cX9_kind 55 = .ok (.iconst 1, 1) := zdcg 6 zdT_dX9_kind_43 rfl
theorem dX9_kind_56 : decode cX9_kind 56 = .ok (.istore_n 3, 1) := zdcg 7 zdT_dX9_kind_43 rfl
theorem dX9_kind_57 : decode cX9_kind 57 = .ok (.iconst 0, 1) := zdcg 8 zdT_dX9_kind_43 rfl
theorem dX9_kind_58 : decode cX9_kind 58 = .ok (.istore 4, 2) := zdcg 9 zdT_dX9_kind_43 rfl
theorem dX9_kind_60 : decode cX9_kind 60 = .ok (.iload 4, 2) := zdcg 10 zdT_dX9_kind_43 rfl
theorem dX9_kind_62 : decode cX9_kind 62 = .ok (.aload_n 0, 1) := zdcg 11 zdT_dX9_kind_43 rfl
theorem dX9_kind_63 : decode cX9_kind 63 = .ok (.getfield 153, 3) := zdcg 12 zdT_dX9_kind_43 rfl
theorem dX9_kind_66 : decode cX9_kind 66 = .ok (.if_icmp .ge 46, 3) := zdcg 13 zdT_dX9_kind_43 rfl
theorem dX9_kind_69 : decode cX9_kind 69 = .ok (.iload_n 3, 1) := zdcg 14 zdT_dX9_kind_43 rfl
theorem dX9_kind_70 : decode cX9_kind 70 = .ok (.ifCond .eq 34, 3) := zdcg 15 zdT_dX9_kind_43 rfl
theorem dX9_kind_73 : decode cX9_kind 73 = .ok (.aload_n 0, 1) := zdcg 16 zdT_dX9_kind_43 rfl
theorem dX9_kind_74 : decode cX9_kind 74 = .ok (.getfield 26, 3) := zdcg 17 zdT_dX9_kind_43 rfl
theorem dX9_kind_77 : decode cX9_kind 77 = .ok (.iload 4, 2) := zdcg 18 zdT_dX9_kind_43 rfl
theorem dX9_kind_79 : decode cX9_kind 79 = .ok (.baload, 1) := zdcg 19 zdT_dX9_kind_43 rfl
theorem dX9_kind_80 : decode cX9_kind 80 = .ok (.ifCond .ne 20, 3) := zdcg 20 zdT_dX9_kind_43 rfl
theorem dX9_kind_83 : decode cX9_kind 83 = .ok (.aload_n 0, 1) := zdcg 21 zdT_dX9_kind_43 rfl
theorem dX9_kind_84 : decode cX9_kind 84 = .ok (.getfield 115, 3) := zdcg 22 zdT_dX9_kind_43 rfl
theorem dX9_kind_87 : decode cX9_kind 87 = .ok (.bipush 11, 2) := zdcg 23 zdT_dX9_kind_43 rfl
theorem dX9_kind_89 : decode cX9_kind 89 = .ok (.iload_n 1, 1) := zdcg 24 zdT_dX9_kind_43 rfl
theorem zdT_dX9_kind_90 : zdch cX9_kind [(90, (.imul, 1)), (91, (.iload 4, 2)), (93, (.iadd, 1)), (94, (.laload, 1)), (95, (.lconst 0, 1)), (96, (.lcmp, 1)), (97, (.ifCond .ne 7, 3)), (100, (.iconst 1, 1)), (101, (.goto 4, 3)), (104, (.iconst 0, 1)), (105, (.istore_n 3, 1)), (106, (.iinc 4 1, 3)), (109, (.goto (-49), 3)), (112, (.iload_n 3, 1)), (113, (.invokestatic 187, 3)), (116, (.ireturn, 1))] = true := by decide +kernel
theorem dX9_kind_90 : decode cX9_kind 90 = .ok (.imul, 1) := zdcg 0 zdT_dX9_kind_90 rfl
theorem dX9_kind_91 : decode cX9_kind 91 = .ok (.iload 4, 2) := zdcg 1 zdT_dX9_kind_90 rfl
theorem dX9_kind_93 : decode cX9_kind 93 = .ok (.iadd, 1) := zdcg 2 zdT_dX9_kind_90 rfl
theorem dX9_kind_94 : decode cX9_kind 94 = .ok (.laload, 1) := zdcg 3 zdT_dX9_kind_90 rfl
theorem dX9_kind_95 : decode cX9_kind 95 = .ok (.lconst 0, 1) := zdcg 4 zdT_dX9_kind_90 rfl
theorem dX9_kind_96 : decode cX9_kind 96 = .ok (.lcmp, 1) := zdcg 5 zdT_dX9_kind_90 rfl
theorem dX9_kind_97 : decode cX9_kind 97 = .ok (.ifCond .ne 7, 3) := zdcg 6 zdT_dX9_kind_90 rfl
theorem dX9_kind_100 : decode cX9_kind 100 = .ok (.iconst 1, 1) := zdcg 7 zdT_dX9_kind_90 rfl
theorem dX9_kind_101 : decode cX9_kind 101 = .ok (.goto 4, 3) := zdcg 8 zdT_dX9_kind_90 rfl
theorem dX9_kind_104 : decode cX9_kind 104 = .ok (.iconst 0, 1) := zdcg 9 zdT_dX9_kind_90 rfl
theorem dX9_kind_105 : decode cX9_kind 105 = .ok (.istore_n 3, 1) := zdcg 10 zdT_dX9_kind_90 rfl
theorem dX9_kind_106 : decode cX9_kind 106 = .ok (.iinc 4 1, 3) := zdcg 11 zdT_dX9_kind_90 rfl
theorem dX9_kind_109 : decode cX9_kind 109 = .ok (.goto (-49), 3) := zdcg 12 zdT_dX9_kind_90 rfl
theorem dX9_kind_112 : decode cX9_kind 112 = .ok (.iload_n 3, 1) := zdcg 13 zdT_dX9_kind_90 rfl
theorem dX9_kind_113 : decode cX9_kind 113 = .ok (.invokestatic 187, 3) := zdcg 14 zdT_dX9_kind_90 rfl
theorem dX9_kind_116 : decode cX9_kind 116 = .ok (.ireturn, 1) := zdcg 15 zdT_dX9_kind_90 rfl
theorem zdT_dX9_cut_0 : zdch cX9_cut [(0, (.iload_n 1, 1)), (1, (.invokestatic 319, 3)), (4, (.ifCond .eq 36, 3)), (7, (.iload_n 3, 1)), (8, (.invokestatic 319, 3)), (11, (.ifCond .eq 29, 3)), (14, (.iload_n 2, 1)), (15, (.i2l, 1)), (16, (.lconst 0, 1)), (17, (.aload_n 0, 1)), (18, (.getfield 199, 3)), (21, (.iconst 1, 1)), (22, (.isub, 1)), (23, (.i2l, 1)), (24, (.invokestatic 283, 3)), (27, (.ifCond .eq 13, 3)), (30, (.aload_n 0, 1)), (31, (.iload_n 1, 1)), (32, (.iconst 0, 1)), (33, (.iconst 0, 1)), (34, (.invokevirtual 343, 3)), (37, (.ifCond .ne 5, 3)), (40, (.iconst (-1), 1)), (41, (.ireturn, 1)), (42, (.iconst 0, 1))] = true := by decide +kernel
theorem dX9_cut_0 : decode cX9_cut 0 = .ok (.iload_n 1, 1) := zdcg 0 zdT_dX9_cut_0 rfl
theorem dX9_cut_1 : decode cX9_cut 1 = .ok (.invokestatic 319, 3) := zdcg 1 zdT_dX9_cut_0 rfl
theorem dX9_cut_4 : decode cX9_cut 4 = .ok (.ifCond .eq 36, 3) := zdcg 2 zdT_dX9_cut_0 rfl
theorem dX9_cut_7 : decode cX9_cut 7 = .ok (.iload_n 3, 1) := zdcg 3 zdT_dX9_cut_0 rfl
theorem dX9_cut_8 : decode cX9_cut 8 = .ok (.invokestatic 319, 3) := zdcg 4 zdT_dX9_cut_0 rfl
theorem dX9_cut_11 : decode cX9_cut 11 = .ok (.ifCond .eq 29, 3) := zdcg 5 zdT_dX9_cut_0 rfl
theorem dX9_cut_14 : decode cX9_cut 14 = .ok (.iload_n 2, 1) := zdcg 6 zdT_dX9_cut_0 rfl
theorem dX9_cut_15 : decode cX9_cut 15 = .ok (.i2l, 1) := zdcg 7 zdT_dX9_cut_0 rfl
theorem dX9_cut_16 : decode cX9_cut 16 = .ok (.lconst 0, 1) := zdcg 8 zdT_dX9_cut_0 rfl
theorem dX9_cut_17 : decode cX9_cut 17 = .ok (.aload_n 0, 1) := zdcg 9 zdT_dX9_cut_0 rfl
theorem dX9_cut_18 : decode cX9_cut 18 = .ok (.getfield 199, 3) := zdcg 10 zdT_dX9_cut_0 rfl
theorem dX9_cut_21 : decode cX9_cut 21 = .ok (.iconst 1, 1) := zdcg 11 zdT_dX9_cut_0 rfl
theorem dX9_cut_22 : decode cX9_cut 22 = .ok (.isub, 1) := zdcg 12 zdT_dX9_cut_0 rfl
theorem dX9_cut_23 : decode cX9_cut 23 = .ok (.i2l, 1) := zdcg 13 zdT_dX9_cut_0 rfl
theorem dX9_cut_24 : decode cX9_cut 24 = .ok (.invokestatic 283, 3) := zdcg 14 zdT_dX9_cut_0 rfl
theorem dX9_cut_27 : decode cX9_cut 27 = .ok (.ifCond .eq 13, 3) := zdcg 15 zdT_dX9_cut_0 rfl
theorem dX9_cut_30 : decode cX9_cut 30 = .ok (.aload_n 0, 1) := zdcg 16 zdT_dX9_cut_0 rfl
theorem dX9_cut_31 : decode cX9_cut 31 = .ok (.iload_n 1, 1) := zdcg 17 zdT_dX9_cut_0 rfl
theorem dX9_cut_32 : decode cX9_cut 32 = .ok (.iconst 0, 1) := zdcg 18 zdT_dX9_cut_0 rfl
theorem dX9_cut_33 : decode cX9_cut 33 = .ok (.iconst 0, 1) := zdcg 19 zdT_dX9_cut_0 rfl
theorem dX9_cut_34 : decode cX9_cut 34 = .ok (.invokevirtual 343, 3) := zdcg 20 zdT_dX9_cut_0 rfl
theorem dX9_cut_37 : decode cX9_cut 37 = .ok (.ifCond .ne 5, 3) := zdcg 21 zdT_dX9_cut_0 rfl
theorem dX9_cut_40 : decode cX9_cut 40 = .ok (.iconst (-1), 1) := zdcg 22 zdT_dX9_cut_0 rfl
theorem dX9_cut_41 : decode cX9_cut 41 = .ok (.ireturn, 1) := zdcg 23 zdT_dX9_cut_0 rfl
theorem dX9_cut_42 : decode cX9_cut 42 = .ok (.iconst 0, 1) := zdcg 24 zdT_dX9_cut_0 rfl
theorem zdT_dX9_cut_43 : zdch cX9_cut [(43, (.istore 4, 2)), (45, (.iload 4, 2)), (47, (.aload_n 0, 1)), (48, (.getfield 153, 3)), (51, (.if_icmp .ge 17, 3)), (54, (.aload_n 0, 1)), (55, (.getfield 118, 3)), (58, (.iload 4, 2)), (60, (.lconst 0, 1)), (61, (.lastore, 1)), (62, (.iinc 4 1, 3)), (65, (.goto (-20), 3)), (68, (.iconst 0, 1)), (69, (.istore 4, 2)), (71, (.iload 4, 2)), (73, (.aload_n 0, 1)), (74, (.getfield 153, 3)), (77, (.if_icmp .ge 83, 3)), (80, (.aload_n 0, 1)), (81, (.getfield 47, 3)), (84, (.iload 4, 2)), (86, (.iaload, 1)), (87, (.iload_n 2, 1)), (88, (.if_icmp .eq 6, 3)), (91, (.goto 63, 3))] = true := by decide +kernel
theorem dX9_cut_43 : decode cX9_cut 43 = .ok (.istore 4, 2) := zdcg 0 zdT_dX9_cut_43 rfl
theorem dX9_cut_45 : decode cX9_cut 45 = .ok (.iload 4, 2) := zdcg 1 zdT_dX9_cut_43 rfl
theorem dX9_cut_47 : decode cX9_cut 47 = .ok (.aload_n 0, 1) := zdcg 2 zdT_dX9_cut_43 rfl
theorem dX9_cut_48 : decode cX9_cut 48 = .ok (.getfield 153, 3) := zdcg 3 zdT_dX9_cut_43 rfl
theorem dX9_cut_51 : decode cX9_cut 51 = .ok (.if_icmp .ge 17, 3) := zdcg 4 zdT_dX9_cut_43 rfl
theorem dX9_cut_54 : decode cX9_cut 54 = .ok (.aload_n 0, 1) := zdcg 5 zdT_dX9_cut_43 rfl
theorem dX9_cut_55 : decode cX9_cut 55 = .ok (.getfield 118, 3) := zdcg 6 zdT_dX9_cut_43 rfl
theorem dX9_cut_58 : decode cX9_cut 58 = .ok (.iload 4, 2) := zdcg 7 zdT_dX9_cut_43 rfl
theorem dX9_cut_60 : decode cX9_cut 60 = .ok (.lconst 0, 1) := zdcg 8 zdT_dX9_cut_43 rfl
theorem dX9_cut_61 : decode cX9_cut 61 = .ok (.lastore, 1) := zdcg 9 zdT_dX9_cut_43 rfl
theorem dX9_cut_62 : decode cX9_cut 62 = .ok (.iinc 4 1, 3) := zdcg 10 zdT_dX9_cut_43 rfl
theorem dX9_cut_65 : decode cX9_cut 65 = .ok (.goto (-20), 3) := zdcg 11 zdT_dX9_cut_43 rfl
theorem dX9_cut_68 : decode cX9_cut 68 = .ok (.iconst 0, 1) := zdcg 12 zdT_dX9_cut_43 rfl
theorem dX9_cut_69 : decode cX9_cut 69 = .ok (.istore 4, 2) := zdcg 13 zdT_dX9_cut_43 rfl
theorem dX9_cut_71 : decode cX9_cut 71 = .ok (.iload 4, 2) := zdcg 14 zdT_dX9_cut_43 rfl
theorem dX9_cut_73 : decode cX9_cut 73 = .ok (.aload_n 0, 1) := zdcg 15 zdT_dX9_cut_43 rfl
theorem dX9_cut_74 : decode cX9_cut 74 = .ok (.getfield 153, 3) := zdcg 16 zdT_dX9_cut_43 rfl
theorem dX9_cut_77 : decode cX9_cut 77 = .ok (.if_icmp .ge 83, 3) := zdcg 17 zdT_dX9_cut_43 rfl
theorem dX9_cut_80 : decode cX9_cut 80 = .ok (.aload_n 0, 1) := zdcg 18 zdT_dX9_cut_43 rfl
theorem dX9_cut_81 : decode cX9_cut 81 = .ok (.getfield 47, 3) := zdcg 19 zdT_dX9_cut_43 rfl
theorem dX9_cut_84 : decode cX9_cut 84 = .ok (.iload 4, 2) := zdcg 20 zdT_dX9_cut_43 rfl
theorem dX9_cut_86 : decode cX9_cut 86 = .ok (.iaload, 1) := zdcg 21 zdT_dX9_cut_43 rfl
theorem dX9_cut_87 : decode cX9_cut 87 = .ok (.iload_n 2, 1) := zdcg 22 zdT_dX9_cut_43 rfl
theorem dX9_cut_88 : decode cX9_cut 88 = .ok (.if_icmp .eq 6, 3) := zdcg 23 zdT_dX9_cut_43 rfl
theorem dX9_cut_91 : decode cX9_cut 91 = .ok (.goto 63, 3) := zdcg 24 zdT_dX9_cut_43 rfl
theorem zdT_dX9_cut_94 : zdch cX9_cut [(94, (.aload_n 0, 1)), (95, (.iload_n 1, 1)), (96, (.iload 4, 2)), (98, (.invokevirtual 328, 3)), (101, (.aload_n 0, 1)), (102, (.getfield 166, 3)), (105, (.i2l, 1)), (106, (.ldiv, 1)), (107, (.lstore 5, 2)), (109, (.iconst 0, 1)), (110, (.istore 7, 2)), (112, (.iload 7, 2)), (114, (.aload_n 0, 1)), (115, (.getfield 153, 3)), (118, (.if_icmp .ge 36, 3)), (121, (.aload_n 0, 1)), (122, (.getfield 118, 3)), (125, (.iload 7, 2)), (127, (.dup2, 1)), (128, (.laload, 1)), (129, (.lload 5, 2)), (131, (.aload_n 0, 1)), (132, (.getfield 38, 3)), (135, (.bipush 11, 2)), (137, (.iload 4, 2))] = true := by decide +kernel
theorem dX9_cut_94 : decode cX9_cut 94 = .ok (.aload_n 0, 1) := zdcg 0 zdT_dX9_cut_94 rfl
theorem dX9_cut_95 : decode cX9_cut 95 = .ok (.iload_n 1, 1) := zdcg 1 zdT_dX9_cut_94 rfl
theorem dX9_cut_96 : decode cX9_cut 96 = .ok (.iload 4, 2) := zdcg 2 zdT_dX9_cut_94 rfl
theorem dX9_cut_98 : decode cX9_cut 98 = .ok (.invokevirtual 328, 3) := zdcg 3 zdT_dX9_cut_94 rfl
theorem dX9_cut_101 : decode cX9_cut 101 = .ok (.aload_n 0, 1) := zdcg 4 zdT_dX9_cut_94 rfl
theorem dX9_cut_102 : decode cX9_cut 102 = .ok (.getfield 166, 3) := zdcg 5 zdT_dX9_cut_94 rfl
theorem dX9_cut_105 : decode cX9_cut 105 = .ok (.i2l, 1) := zdcg 6 zdT_dX9_cut_94 rfl
theorem dX9_cut_106 : decode cX9_cut 106 = .ok (.ldiv, 1) := zdcg 7 zdT_dX9_cut_94 rfl
theorem dX9_cut_107 : decode cX9_cut 107 = .ok (.lstore 5, 2) := zdcg 8 zdT_dX9_cut_94 rfl
theorem dX9_cut_109 : decode cX9_cut 109 = .ok (.iconst 0, 1) := zdcg 9 zdT_dX9_cut_94 rfl
theorem dX9_cut_110 : decode cX9_cut 110 = .ok (.istore 7, 2) := zdcg 10 zdT_dX9_cut_94 rfl
theorem dX9_cut_112 : decode cX9_cut 112 = .ok (.iload 7, 2) := zdcg 11 zdT_dX9_cut_94 rfl
theorem dX9_cut_114 : decode cX9_cut 114 = .ok (.aload_n 0, 1) := zdcg 12 zdT_dX9_cut_94 rfl
theorem dX9_cut_115 : decode cX9_cut 115 = .ok (.getfield 153, 3) := zdcg 13 zdT_dX9_cut_94 rfl
theorem dX9_cut_118 : decode cX9_cut 118 = .ok (.if_icmp .ge 36, 3) := zdcg 14 zdT_dX9_cut_94 rfl
theorem dX9_cut_121 : decode cX9_cut 121 = .ok (.aload_n 0, 1) := zdcg 15 zdT_dX9_cut_94 rfl
theorem dX9_cut_122 : decode cX9_cut 122 = .ok (.getfield 118, 3) := zdcg 16 zdT_dX9_cut_94 rfl
theorem dX9_cut_125 : decode cX9_cut 125 = .ok (.iload 7, 2) := zdcg 17 zdT_dX9_cut_94 rfl
theorem dX9_cut_127 : decode cX9_cut 127 = .ok (.dup2, 1) := zdcg 18 zdT_dX9_cut_94 rfl
theorem dX9_cut_128 : decode cX9_cut 128 = .ok (.laload, 1) := zdcg 19 zdT_dX9_cut_94 rfl
theorem dX9_cut_129 : decode cX9_cut 129 = .ok (.lload 5, 2) := zdcg 20 zdT_dX9_cut_94 rfl
theorem dX9_cut_131 : decode cX9_cut 131 = .ok (.aload_n 0, 1) := zdcg 21 zdT_dX9_cut_94 rfl
theorem dX9_cut_132 : decode cX9_cut 132 = .ok (.getfield 38, 3) := zdcg 22 zdT_dX9_cut_94 rfl
theorem dX9_cut_135 : decode cX9_cut 135 = .ok (.bipush 11, 2) := zdcg 23 zdT_dX9_cut_94 rfl
theorem dX9_cut_137 : decode cX9_cut 137 = .ok (.iload 4, 2) := zdcg 24 zdT_dX9_cut_94 rfl
theorem zdT_dX9_cut_139 : zdch cX9_cut [(139, (.imul, 1)), (140, (.iload 7, 2)), (142, (.iadd, 1)), (143, (.iaload, 1)), (144, (.i2l, 1)), (145, (.lmul, 1)), (146, (.ladd, 1)), (147, (.lastore, 1)), (148, (.iinc 7 1, 3)), (151, (.goto (-39), 3)), (154, (.iinc 4 1, 3)), (157, (.goto (-86), 3)), (160, (.iconst 0, 1)), (161, (.istore 4, 2)), (163, (.iload 4, 2)), (165, (.aload_n 0, 1)), (166, (.getfield 153, 3)), (169, (.if_icmp .ge 28, 3)), (172, (.aload_n 0, 1)), (173, (.getfield 115, 3)), (176, (.bipush 11, 2)), (178, (.iload_n 3, 1)), (179, (.imul, 1)), (180, (.iload 4, 2)), (182, (.iadd, 1))] = true := by decide +kernel
theorem dX9_cut_139 : decode cX9_cut 139 = .ok (.imul, 1) := zdcg 0 zdT_dX9_cut_139 rfl
theorem dX9_cut_140 : decode cX9_cut 140 = .ok (.iload 7, 2) := zdcg 1 zdT_dX9_cut_139 rfl
theorem dX9_cut_142 : decode cX9_cut 142 = .ok (.iadd, 1) := zdcg 2 zdT_dX9_cut_139 rfl
theorem dX9_cut_143 : decode cX9_cut 143 = .ok (.iaload, 1) := zdcg 3 zdT_dX9_cut_139 rfl
theorem dX9_cut_144 : decode cX9_cut 144 = .ok (.i2l, 1) := zdcg 4 zdT_dX9_cut_139 rfl
theorem dX9_cut_145 : decode cX9_cut 145 = .ok (.lmul, 1) := zdcg 5 zdT_dX9_cut_139 rfl
theorem dX9_cut_146 : decode cX9_cut 146 = .ok (.ladd, 1) := zdcg 6 zdT_dX9_cut_139 rfl
theorem dX9_cut_147 : decode cX9_cut 147 = .ok (.lastore, 1) := zdcg 7 zdT_dX9_cut_139 rfl
theorem dX9_cut_148 : decode cX9_cut 148 = .ok (.iinc 7 1, 3) := zdcg 8 zdT_dX9_cut_139 rfl
theorem dX9_cut_151 : decode cX9_cut 151 = .ok (.goto (-39), 3) := zdcg 9 zdT_dX9_cut_139 rfl
theorem dX9_cut_154 : decode cX9_cut 154 = .ok (.iinc 4 1, 3) := zdcg 10 zdT_dX9_cut_139 rfl
theorem dX9_cut_157 : decode cX9_cut 157 = .ok (.goto (-86), 3) := zdcg 11 zdT_dX9_cut_139 rfl
theorem dX9_cut_160 : decode cX9_cut 160 = .ok (.iconst 0, 1) := zdcg 12 zdT_dX9_cut_139 rfl
theorem dX9_cut_161 : decode cX9_cut 161 = .ok (.istore 4, 2) := zdcg 13 zdT_dX9_cut_139 rfl
theorem dX9_cut_163 : decode cX9_cut 163 = .ok (.iload 4, 2) := zdcg 14 zdT_dX9_cut_139 rfl
theorem dX9_cut_165 : decode cX9_cut 165 = .ok (.aload_n 0, 1) := zdcg 15 zdT_dX9_cut_139 rfl
theorem dX9_cut_166 : decode cX9_cut 166 = .ok (.getfield 153, 3) := zdcg 16 zdT_dX9_cut_139 rfl
theorem dX9_cut_169 : decode cX9_cut 169 = .ok (.if_icmp .ge 28, 3) := zdcg 17 zdT_dX9_cut_139 rfl
theorem dX9_cut_172 : decode cX9_cut 172 = .ok (.aload_n 0, 1) := zdcg 18 zdT_dX9_cut_139 rfl
theorem dX9_cut_173 : decode cX9_cut 173 = .ok (.getfield 115, 3) := zdcg 19 zdT_dX9_cut_139 rfl
theorem dX9_cut_176 : decode cX9_cut 176 = .ok (.bipush 11, 2) := zdcg 20 zdT_dX9_cut_139 rfl
theorem dX9_cut_178 : decode cX9_cut 178 = .ok (.iload_n 3, 1) := zdcg 21 zdT_dX9_cut_139 rfl
theorem dX9_cut_179 : decode cX9_cut 179 = .ok (.imul, 1) := zdcg 22 zdT_dX9_cut_139 rfl
theorem dX9_cut_180 : decode cX9_cut 180 = .ok (.iload 4, 2) := zdcg 23 zdT_dX9_cut_139 rfl
theorem dX9_cut_182 : decode cX9_cut 182 = .ok (.iadd, 1) := zdcg 24 zdT_dX9_cut_139 rfl
theorem zdT_dX9_cut_183 : zdch cX9_cut [(183, (.aload_n 0, 1)), (184, (.getfield 118, 3)), (187, (.iload 4, 2)), (189, (.laload, 1)), (190, (.lastore, 1)), (191, (.iinc 4 1, 3)), (194, (.goto (-31), 3)), (197, (.iconst 0, 1)), (198, (.ireturn, 1))] = true := by decide +kernel
theorem dX9_cut_183 : decode cX9_cut 183 = .ok (.aload_n 0, 1) := zdcg 0 zdT_dX9_cut_183 rfl
theorem dX9_cut_184 : decode cX9_cut 184 = .ok (.getfield 118, 3) := zdcg 1 zdT_dX9_cut_183 rfl
theorem dX9_cut_187 : decode cX9_cut 187 = .ok (.iload 4, 2) := zdcg 2 zdT_dX9_cut_183 rfl
theorem dX9_cut_189 : decode cX9_cut 189 = .ok (.laload, 1) := zdcg 3 zdT_dX9_cut_183 rfl
theorem dX9_cut_190 : decode cX9_cut 190 = .ok (.lastore, 1) := zdcg 4 zdT_dX9_cut_183 rfl
theorem dX9_cut_191 : decode cX9_cut 191 = .ok (.iinc 4 1, 3) := zdcg 5 zdT_dX9_cut_183 rfl
theorem dX9_cut_194 : decode cX9_cut 194 = .ok (.goto (-31), 3) := zdcg 6 zdT_dX9_cut_183 rfl
theorem dX9_cut_197 : decode cX9_cut 197 = .ok (.iconst 0, 1) := zdcg 7 zdT_dX9_cut_183 rfl
theorem dX9_cut_198 : decode cX9_cut 198 = .ok (.ireturn, 1) := zdcg 8 zdT_dX9_cut_183 rfl
theorem zdT_dX9_four_0 : zdch cX9_four [(0, (.bipush 24, 2)), (2, (.istore_n 2, 1)), (3, (.iload_n 2, 1)), (4, (.ifCond .lt 35, 3)), (7, (.aload_n 0, 1)), (8, (.getfield 121, 3)), (11, (.aload_n 0, 1)), (12, (.getfield 347, 3)), (15, (.iload_n 1, 1)), (16, (.iload_n 2, 1)), (17, (.ishr, 1)), (18, (.sipush 255, 3)), (21, (.iand, 1)), (22, (.iastore, 1)), (23, (.aload_n 0, 1)), (24, (.dup, 1)), (25, (.getfield 347, 3)), (28, (.iconst 1, 1)), (29, (.iadd, 1)), (30, (.putfield 347, 3)), (33, (.iinc 2 (-8), 3)), (36, (.goto (-33), 3)), (39, (.return_, 1))] = true := by decide +kernel
theorem dX9_four_0 : decode cX9_four 0 = .ok (.bipush 24, 2) := zdcg 0 zdT_dX9_four_0 rfl
theorem dX9_four_2 : decode cX9_four 2 = .ok (.istore_n 2, 1) := zdcg 1 zdT_dX9_four_0 rfl
theorem dX9_four_3 : decode cX9_four 3 = .ok (.iload_n 2, 1) := zdcg 2 zdT_dX9_four_0 rfl
theorem dX9_four_4 : decode cX9_four 4 = .ok (.ifCond .lt 35, 3) := zdcg 3 zdT_dX9_four_0 rfl
theorem dX9_four_7 : decode cX9_four 7 = .ok (.aload_n 0, 1) := zdcg 4 zdT_dX9_four_0 rfl
theorem dX9_four_8 : decode cX9_four 8 = .ok (.getfield 121, 3) := zdcg 5 zdT_dX9_four_0 rfl
theorem dX9_four_11 : decode cX9_four 11 = .ok (.aload_n 0, 1) := zdcg 6 zdT_dX9_four_0 rfl
theorem dX9_four_12 : decode cX9_four 12 = .ok (.getfield 347, 3) := zdcg 7 zdT_dX9_four_0 rfl
theorem dX9_four_15 : decode cX9_four 15 = .ok (.iload_n 1, 1) := zdcg 8 zdT_dX9_four_0 rfl
theorem dX9_four_16 : decode cX9_four 16 = .ok (.iload_n 2, 1) := zdcg 9 zdT_dX9_four_0 rfl
theorem dX9_four_17 : decode cX9_four 17 = .ok (.ishr, 1) := zdcg 10 zdT_dX9_four_0 rfl
theorem dX9_four_18 : decode cX9_four 18 = .ok (.sipush 255, 3) := zdcg 11 zdT_dX9_four_0 rfl
theorem dX9_four_21 : decode cX9_four 21 = .ok (.iand, 1) := zdcg 12 zdT_dX9_four_0 rfl
theorem dX9_four_22 : decode cX9_four 22 = .ok (.iastore, 1) := zdcg 13 zdT_dX9_four_0 rfl
theorem dX9_four_23 : decode cX9_four 23 = .ok (.aload_n 0, 1) := zdcg 14 zdT_dX9_four_0 rfl
theorem dX9_four_24 : decode cX9_four 24 = .ok (.dup, 1) := zdcg 15 zdT_dX9_four_0 rfl
theorem dX9_four_25 : decode cX9_four 25 = .ok (.getfield 347, 3) := zdcg 16 zdT_dX9_four_0 rfl
theorem dX9_four_28 : decode cX9_four 28 = .ok (.iconst 1, 1) := zdcg 17 zdT_dX9_four_0 rfl
theorem dX9_four_29 : decode cX9_four 29 = .ok (.iadd, 1) := zdcg 18 zdT_dX9_four_0 rfl
theorem dX9_four_30 : decode cX9_four 30 = .ok (.putfield 347, 3) := zdcg 19 zdT_dX9_four_0 rfl
theorem dX9_four_33 : decode cX9_four 33 = .ok (.iinc 2 (-8), 3) := zdcg 20 zdT_dX9_four_0 rfl
theorem dX9_four_36 : decode cX9_four 36 = .ok (.goto (-33), 3) := zdcg 21 zdT_dX9_four_0 rfl
theorem dX9_four_39 : decode cX9_four 39 = .ok (.return_, 1) := zdcg 22 zdT_dX9_four_0 rfl
theorem zdT_dX9_feed_0 : zdch cX9_feed [(0, (.aload_n 0, 1)), (1, (.getfield 347, 3)), (4, (.bipush 20, 2)), (6, (.iadd, 1)), (7, (.sipush 200, 3)), (10, (.if_icmp .le 5, 3)), (13, (.iconst (-1), 1)), (14, (.ireturn, 1)), (15, (.aload_n 0, 1)), (16, (.iload_n 1, 1)), (17, (.invokevirtual 350, 3)), (20, (.aload_n 0, 1)), (21, (.iload_n 2, 1)), (22, (.invokevirtual 350, 3)), (25, (.aload_n 0, 1)), (26, (.iload_n 3, 1)), (27, (.invokevirtual 350, 3)), (30, (.aload_n 0, 1)), (31, (.iload 4, 2)), (33, (.invokevirtual 350, 3)), (36, (.aload_n 0, 1)), (37, (.iload 5, 2)), (39, (.invokevirtual 350, 3)), (42, (.aload_n 0, 1)), (43, (.getfield 347, 3))] = true := by decide +kernel
theorem dX9_feed_0 : decode cX9_feed 0 = .ok (.aload_n 0, 1) := zdcg 0 zdT_dX9_feed_0 rfl
theorem dX9_feed_1 : decode cX9_feed 1 = .ok (.getfield 347, 3) := zdcg 1 zdT_dX9_feed_0 rfl
theorem dX9_feed_4 : decode cX9_feed 4 = .ok (.bipush 20, 2) := zdcg 2 zdT_dX9_feed_0 rfl
theorem dX9_feed_6 : decode cX9_feed 6 = .ok (.iadd, 1) := zdcg 3 zdT_dX9_feed_0 rfl
theorem dX9_feed_7 : decode cX9_feed 7 = .ok (.sipush 200, 3) := zdcg 4 zdT_dX9_feed_0 rfl
theorem dX9_feed_10 : decode cX9_feed 10 = .ok (.if_icmp .le 5, 3) := zdcg 5 zdT_dX9_feed_0 rfl
theorem dX9_feed_13 : decode cX9_feed 13 = .ok (.iconst (-1), 1) := zdcg 6 zdT_dX9_feed_0 rfl
theorem dX9_feed_14 : decode cX9_feed 14 = .ok (.ireturn, 1) := zdcg 7 zdT_dX9_feed_0 rfl
theorem dX9_feed_15 : decode cX9_feed 15 = .ok (.aload_n 0, 1) := zdcg 8 zdT_dX9_feed_0 rfl
theorem dX9_feed_16 : decode cX9_feed 16 = .ok (.iload_n 1, 1) := zdcg 9 zdT_dX9_feed_0 rfl
theorem dX9_feed_17 : decode cX9_feed 17 = .ok (.invokevirtual 350, 3) := zdcg 10 zdT_dX9_feed_0 rfl
theorem dX9_feed_20 : decode cX9_feed 20 = .ok (.aload_n 0, 1) := zdcg 11 zdT_dX9_feed_0 rfl
theorem dX9_feed_21 : decode cX9_feed 21 = .ok (.iload_n 2, 1) := zdcg 12 zdT_dX9_feed_0 rfl
theorem dX9_feed_22 : decode cX9_feed 22 = .ok (.invokevirtual 350, 3) := zdcg 13 zdT_dX9_feed_0 rfl
theorem dX9_feed_25 : decode cX9_feed 25 = .ok (.aload_n 0, 1) := zdcg 14 zdT_dX9_feed_0 rfl
theorem dX9_feed_26 : decode cX9_feed 26 = .ok (.iload_n 3, 1) := zdcg 15 zdT_dX9_feed_0 rfl
theorem dX9_feed_27 : decode cX9_feed 27 = .ok (.invokevirtual 350, 3) := zdcg 16 zdT_dX9_feed_0 rfl
theorem dX9_feed_30 : decode cX9_feed 30 = .ok (.aload_n 0, 1) := zdcg 17 zdT_dX9_feed_0 rfl
theorem dX9_feed_31 : decode cX9_feed 31 = .ok (.iload 4, 2) := zdcg 18 zdT_dX9_feed_0 rfl
theorem dX9_feed_33 : decode cX9_feed 33 = .ok (.invokevirtual 350, 3) := zdcg 19 zdT_dX9_feed_0 rfl
theorem dX9_feed_36 : decode cX9_feed 36 = .ok (.aload_n 0, 1) := zdcg 20 zdT_dX9_feed_0 rfl
theorem dX9_feed_37 : decode cX9_feed 37 = .ok (.iload 5, 2) := zdcg 21 zdT_dX9_feed_0 rfl
theorem dX9_feed_39 : decode cX9_feed 39 = .ok (.invokevirtual 350, 3) := zdcg 22 zdT_dX9_feed_0 rfl
theorem dX9_feed_42 : decode cX9_feed 42 = .ok (.aload_n 0, 1) := zdcg 23 zdT_dX9_feed_0 rfl
theorem dX9_feed_43 : decode cX9_feed 43 = .ok (.getfield 347, 3) := zdcg 24 zdT_dX9_feed_0 rfl
theorem zdT_dX9_feed_46 : zdch cX9_feed [(46, (.ireturn, 1))] = true := by decide +kernel
theorem dX9_feed_46 : decode cX9_feed 46 = .ok (.ireturn, 1) := zdcg 0 zdT_dX9_feed_46 rfl
theorem zdT_dX9_end_0 : zdch cX9_end [(0, (.iload_n 1, 1)), (1, (.i2l, 1)), (2, (.lconst 0, 1)), (3, (.aload_n 0, 1)), (4, (.getfield 347, 3)), (7, (.i2l, 1)), (8, (.invokestatic 283, 3)), (11, (.ifCond .ne 5, 3)), (14, (.iconst 0, 1)), (15, (.ireturn, 1)), (16, (.aload_n 0, 1)), (17, (.iload_n 1, 1)), (18, (.putfield 347, 3)), (21, (.iconst 1, 1)), (22, (.ireturn, 1))] = true := by decide +kernel
theorem dX9_end_0 : decode cX9_end 0 = .ok (.iload_n 1, 1) := zdcg 0 zdT_dX9_end_0 rfl
theorem dX9_end_1 : decode cX9_end 1 = .ok (.i2l, 1) := zdcg 1 zdT_dX9_end_0 rfl
theorem dX9_end_2 : decode cX9_end 2 = .ok (.lconst 0, 1) := zdcg 2 zdT_dX9_end_0 rfl
theorem dX9_end_3 : decode cX9_end 3 = .ok (.aload_n 0, 1) := zdcg 3 zdT_dX9_end_0 rfl
theorem dX9_end_4 : decode cX9_end 4 = .ok (.getfield 347, 3) := zdcg 4 zdT_dX9_end_0 rfl
theorem dX9_end_7 : decode cX9_end 7 = .ok (.i2l, 1) := zdcg 5 zdT_dX9_end_0 rfl
theorem dX9_end_8 : decode cX9_end 8 = .ok (.invokestatic 283, 3) := zdcg 6 zdT_dX9_end_0 rfl
theorem dX9_end_11 : decode cX9_end 11 = .ok (.ifCond .ne 5, 3) := zdcg 7 zdT_dX9_end_0 rfl
theorem dX9_end_14 : decode cX9_end 14 = .ok (.iconst 0, 1) := zdcg 8 zdT_dX9_end_0 rfl
theorem dX9_end_15 : decode cX9_end 15 = .ok (.ireturn, 1) := zdcg 9 zdT_dX9_end_0 rfl
theorem dX9_end_16 : decode cX9_end 16 = .ok (.aload_n 0, 1) := zdcg 10 zdT_dX9_end_0 rfl
theorem dX9_end_17 : decode cX9_end 17 = .ok (.iload_n 1, 1) := zdcg 11 zdT_dX9_end_0 rfl
theorem dX9_end_18 : decode cX9_end 18 = .ok (.putfield 347, 3) := zdcg 12 zdT_dX9_end_0 rfl
theorem dX9_end_21 : decode cX9_end 21 = .ok (.iconst 1, 1) := zdcg 13 zdT_dX9_end_0 rfl
theorem dX9_end_22 : decode cX9_end 22 = .ok (.ireturn, 1) := zdcg 14 zdT_dX9_end_0 rfl
theorem zdT_dX9_fault_0 : zdch cX9_fault [(0, (.iload_n 1, 1)), (1, (.ifCond .ne 8, 3)), (4, (.aload_n 0, 1)), (5, (.getfield 356, 3)), (8, (.ireturn, 1)), (9, (.iload_n 1, 1)), (10, (.iconst 1, 1)), (11, (.if_icmp .ne 8, 3)), (14, (.aload_n 0, 1)), (15, (.getfield 124, 3)), (18, (.ireturn, 1)), (19, (.iload_n 1, 1)), (20, (.iconst 2, 1)), (21, (.if_icmp .ne 8, 3)), (24, (.aload_n 0, 1)), (25, (.getfield 361, 3)), (28, (.ireturn, 1)), (29, (.iload_n 1, 1)), (30, (.i2l, 1)), (31, (.ldc2_w 432, 3)), (34, (.bipush 9, 2)), (36, (.aload_n 0, 1)), (37, (.getfield 361, 3)), (40, (.iadd, 1)), (41, (.i2l, 1))] = true := by decide +kernel
theorem dX9_fault_0 : decode cX9_fault 0 = .ok (.iload_n 1, 1) := zdcg 0 zdT_dX9_fault_0 rfl
theorem dX9_fault_1 : decode cX9_fault 1 = .ok (.ifCond .ne 8, 3) := zdcg 1 zdT_dX9_fault_0 rfl
theorem dX9_fault_4 : decode cX9_fault 4 = .ok (.aload_n 0, 1) := zdcg 2 zdT_dX9_fault_0 rfl
theorem dX9_fault_5 : decode cX9_fault 5 = .ok (.getfield 356, 3) := zdcg 3 zdT_dX9_fault_0 rfl
theorem dX9_fault_8 : decode cX9_fault 8 = .ok (.ireturn, 1) := zdcg 4 zdT_dX9_fault_0 rfl
theorem dX9_fault_9 : decode cX9_fault 9 = .ok (.iload_n 1, 1) := zdcg 5 zdT_dX9_fault_0 rfl
theorem dX9_fault_10 : decode cX9_fault 10 = .ok (.iconst 1, 1) := zdcg 6 zdT_dX9_fault_0 rfl
theorem dX9_fault_11 : decode cX9_fault 11 = .ok (.if_icmp .ne 8, 3) := zdcg 7 zdT_dX9_fault_0 rfl
theorem dX9_fault_14 : decode cX9_fault 14 = .ok (.aload_n 0, 1) := zdcg 8 zdT_dX9_fault_0 rfl
theorem dX9_fault_15 : decode cX9_fault 15 = .ok (.getfield 124, 3) := zdcg 9 zdT_dX9_fault_0 rfl
theorem dX9_fault_18 : decode cX9_fault 18 = .ok (.ireturn, 1) := zdcg 10 zdT_dX9_fault_0 rfl
theorem dX9_fault_19 : decode cX9_fault 19 = .ok (.iload_n 1, 1) := zdcg 11 zdT_dX9_fault_0 rfl
theorem dX9_fault_20 : decode cX9_fault 20 = .ok (.iconst 2, 1) := zdcg 12 zdT_dX9_fault_0 rfl
theorem dX9_fault_21 : decode cX9_fault 21 = .ok (.if_icmp .ne 8, 3) := zdcg 13 zdT_dX9_fault_0 rfl
theorem dX9_fault_24 : decode cX9_fault 24 = .ok (.aload_n 0, 1) := zdcg 14 zdT_dX9_fault_0 rfl
theorem dX9_fault_25 : decode cX9_fault 25 = .ok (.getfield 361, 3) := zdcg 15 zdT_dX9_fault_0 rfl
theorem dX9_fault_28 : decode cX9_fault 28 = .ok (.ireturn, 1) := zdcg 16 zdT_dX9_fault_0 rfl
theorem dX9_fault_29 : decode cX9_fault 29 = .ok (.iload_n 1, 1) := zdcg 17 zdT_dX9_fault_0 rfl
theorem dX9_fault_30 : decode cX9_fault 30 = .ok (.i2l, 1) := zdcg 18 zdT_dX9_fault_0 rfl
theorem dX9_fault_31 : decode cX9_fault 31 = .ok (.ldc2_w 432, 3) := zdcg 19 zdT_dX9_fault_0 rfl
theorem dX9_fault_34 : decode cX9_fault 34 = .ok (.bipush 9, 2) := zdcg 20 zdT_dX9_fault_0 rfl
theorem dX9_fault_36 : decode cX9_fault 36 = .ok (.aload_n 0, 1) := zdcg 21 zdT_dX9_fault_0 rfl
theorem dX9_fault_37 : decode cX9_fault 37 = .ok (.getfield 361, 3) := zdcg 22 zdT_dX9_fault_0 rfl
theorem dX9_fault_40 : decode cX9_fault 40 = .ok (.iadd, 1) := zdcg 23 zdT_dX9_fault_0 rfl
theorem dX9_fault_41 : decode cX9_fault 41 = .ok (.i2l, 1) := zdcg 24 zdT_dX9_fault_0 rfl
theorem zdT_dX9_fault_42 : zdch cX9_fault [(42, (.invokestatic 283, 3)), (45, (.ifCond .eq 15, 3)), (48, (.aload_n 0, 1)), (49, (.getfield 128, 3)), (52, (.iload_n 1, 1)), (53, (.bipush 10, 2)), (55, (.isub, 1)), (56, (.iaload, 1)), (57, (.goto 4, 3)), (60, (.iconst (-1), 1)), (61, (.ireturn, 1))] = true := by decide +kernel
theorem dX9_fault_42 : decode cX9_fault 42 = .ok (.invokestatic 283, 3) := zdcg 0 zdT_dX9_fault_42 rfl
theorem dX9_fault_45 : decode cX9_fault 45 = .ok (.ifCond .eq 15, 3) := zdcg 1 zdT_dX9_fault_42 rfl
theorem dX9_fault_48 : decode cX9_fault 48 = .ok (.aload_n 0, 1) := zdcg 2 zdT_dX9_fault_42 rfl
theorem dX9_fault_49 : decode cX9_fault 49 = .ok (.getfield 128, 3) := zdcg 3 zdT_dX9_fault_42 rfl
theorem dX9_fault_52 : decode cX9_fault 52 = .ok (.iload_n 1, 1) := zdcg 4 zdT_dX9_fault_42 rfl
theorem dX9_fault_53 : decode cX9_fault 53 = .ok (.bipush 10, 2) := zdcg 5 zdT_dX9_fault_42 rfl
theorem dX9_fault_55 : decode cX9_fault 55 = .ok (.isub, 1) := zdcg 6 zdT_dX9_fault_42 rfl
theorem dX9_fault_56 : decode cX9_fault 56 = .ok (.iaload, 1) := zdcg 7 zdT_dX9_fault_42 rfl
theorem dX9_fault_57 : decode cX9_fault 57 = .ok (.goto 4, 3) := zdcg 8 zdT_dX9_fault_42 rfl
theorem dX9_fault_60 : decode cX9_fault 60 = .ok (.iconst (-1), 1) := zdcg 9 zdT_dX9_fault_42 rfl
theorem dX9_fault_61 : decode cX9_fault 61 = .ok (.ireturn, 1) := zdcg 10 zdT_dX9_fault_42 rfl
theorem zdT_dX9_look_0 : zdch cX9_look [(0, (.iconst 0, 1)), (1, (.istore_n 2, 1)), (2, (.iconst 0, 1)), (3, (.istore_n 3, 1)), (4, (.iconst 0, 1)), (5, (.istore 4, 2)), (7, (.iload 4, 2)), (9, (.bipush 66, 2)), (11, (.if_icmp .ge 43, 3)), (14, (.iload 4, 2)), (16, (.bipush 11, 2)), (18, (.irem, 1)), (19, (.aload_n 0, 1)), (20, (.getfield 153, 3)), (23, (.if_icmp .ge 25, 3)), (26, (.aload_n 0, 1)), (27, (.getfield 115, 3)), (30, (.iload 4, 2)), (32, (.laload, 1)), (33, (.lconst 0, 1)), (34, (.lcmp, 1)), (35, (.ifCond .eq 13, 3)), (38, (.iload_n 2, 1)), (39, (.iconst 1, 1)), (40, (.iload 4, 2))] = true := by decide +kernel
theorem dX9_look_0 : decode cX9_look 0 = .ok (.iconst 0, 1) := zdcg 0 zdT_dX9_look_0 rfl
theorem dX9_look_1 : decode cX9_look 1 = .ok (.istore_n 2, 1) := zdcg 1 zdT_dX9_look_0 rfl
theorem dX9_look_2 : decode cX9_look 2 = .ok (.iconst 0, 1) := zdcg 2 zdT_dX9_look_0 rfl
theorem dX9_look_3 : decode cX9_look 3 = .ok (.istore_n 3, 1) := zdcg 3 zdT_dX9_look_0 rfl
theorem dX9_look_4 : decode cX9_look 4 = .ok (.iconst 0, 1) := zdcg 4 zdT_dX9_look_0 rfl
theorem dX9_look_5 : decode cX9_look 5 = .ok (.istore 4, 2) := zdcg 5 zdT_dX9_look_0 rfl
theorem dX9_look_7 : decode cX9_look 7 = .ok (.iload 4, 2) := zdcg 6 zdT_dX9_look_0 rfl
theorem dX9_look_9 : decode cX9_look 9 = .ok (.bipush 66, 2) := zdcg 7 zdT_dX9_look_0 rfl
theorem dX9_look_11 : decode cX9_look 11 = .ok (.if_icmp .ge 43, 3) := zdcg 8 zdT_dX9_look_0 rfl
theorem dX9_look_14 : decode cX9_look 14 = .ok (.iload 4, 2) := zdcg 9 zdT_dX9_look_0 rfl
theorem dX9_look_16 : decode cX9_look 16 = .ok (.bipush 11, 2) := zdcg 10 zdT_dX9_look_0 rfl
theorem dX9_look_18 : decode cX9_look 18 = .ok (.irem, 1) := zdcg 11 zdT_dX9_look_0 rfl
theorem dX9_look_19 : decode cX9_look 19 = .ok (.aload_n 0, 1) := zdcg 12 zdT_dX9_look_0 rfl
theorem dX9_look_20 : decode cX9_look 20 = .ok (.getfield 153, 3) := zdcg 13 zdT_dX9_look_0 rfl
theorem dX9_look_23 : decode cX9_look 23 = .ok (.if_icmp .ge 25, 3) := zdcg 14 zdT_dX9_look_0 rfl
theorem dX9_look_26 : decode cX9_look 26 = .ok (.aload_n 0, 1) := zdcg 15 zdT_dX9_look_0 rfl
theorem dX9_look_27 : decode cX9_look 27 = .ok (.getfield 115, 3) := zdcg 16 zdT_dX9_look_0 rfl
theorem dX9_look_30 : decode cX9_look 30 = .ok (.iload 4, 2) := zdcg 17 zdT_dX9_look_0 rfl
theorem dX9_look_32 : decode cX9_look 32 = .ok (.laload, 1) := zdcg 18 zdT_dX9_look_0 rfl
theorem dX9_look_33 : decode cX9_look 33 = .ok (.lconst 0, 1) := zdcg 19 zdT_dX9_look_0 rfl
theorem dX9_look_34 : decode cX9_look 34 = .ok (.lcmp, 1) := zdcg 20 zdT_dX9_look_0 rfl
theorem dX9_look_35 : decode cX9_look 35 = .ok (.ifCond .eq 13, 3) := zdcg 21 zdT_dX9_look_0 rfl
theorem dX9_look_38 : decode cX9_look 38 = .ok (.iload_n 2, 1) := zdcg 22 zdT_dX9_look_0 rfl
theorem dX9_look_39 : decode cX9_look 39 = .ok (.iconst 1, 1) := zdcg 23 zdT_dX9_look_0 rfl
theorem dX9_look_40 : decode cX9_look 40 = .ok (.iload 4, 2) := zdcg 24 zdT_dX9_look_0 rfl
theorem zdT_dX9_look_42 : zdch cX9_look [(42, (.bipush 11, 2)), (44, (.idiv, 1)), (45, (.ishl, 1)), (46, (.ior, 1)), (47, (.istore_n 2, 1)), (48, (.iinc 4 1, 3)), (51, (.goto (-44), 3)), (54, (.iconst 0, 1)), (55, (.istore 4, 2)), (57, (.iload 4, 2)), (59, (.aload_n 0, 1)), (60, (.getfield 199, 3)), (63, (.if_icmp .ge 35, 3)), (66, (.iload_n 3, 1)), (67, (.aload_n 0, 1)), (68, (.getfield 41, 3)), (71, (.aload_n 0, 1)), (72, (.getfield 50, 3)), (75, (.iload 4, 2)), (77, (.iaload, 1)), (78, (.iaload, 1)), (79, (.ifCond .ne 7, 3)), (82, (.iconst 1, 1)), (83, (.goto 4, 3)), (86, (.iconst 0, 1))] = true := by decide +kernel
theorem dX9_look_42 : decode cX9_look 42 = .ok (.bipush 11, 2) := zdcg 0 zdT_dX9_look_42 rfl
theorem dX9_look_44 : decode cX9_look 44 = .ok (.idiv, 1) := zdcg 1 zdT_dX9_look_42 rfl
theorem dX9_look_45 : decode cX9_look 45 = .ok (.ishl, 1) := zdcg 2 zdT_dX9_look_42 rfl
theorem dX9_look_46 : decode cX9_look 46 = .ok (.ior, 1) := zdcg 3 zdT_dX9_look_42 rfl
theorem dX9_look_47 : decode cX9_look 47 = .ok (.istore_n 2, 1) := zdcg 4 zdT_dX9_look_42 rfl
theorem dX9_look_48 : decode cX9_look 48 = .ok (.iinc 4 1, 3) := zdcg 5 zdT_dX9_look_42 rfl
theorem dX9_look_51 : decode cX9_look 51 = .ok (.goto (-44), 3) := zdcg 6 zdT_dX9_look_42 rfl
theorem dX9_look_54 : decode cX9_look 54 = .ok (.iconst 0, 1) := zdcg 7 zdT_dX9_look_42 rfl
theorem dX9_look_55 : decode cX9_look 55 = .ok (.istore 4, 2) := zdcg 8 zdT_dX9_look_42 rfl
theorem dX9_look_57 : decode cX9_look 57 = .ok (.iload 4, 2) := zdcg 9 zdT_dX9_look_42 rfl
theorem dX9_look_59 : decode cX9_look 59 = .ok (.aload_n 0, 1) := zdcg 10 zdT_dX9_look_42 rfl
theorem dX9_look_60 : decode cX9_look 60 = .ok (.getfield 199, 3) := zdcg 11 zdT_dX9_look_42 rfl
theorem dX9_look_63 : decode cX9_look 63 = .ok (.if_icmp .ge 35, 3) := zdcg 12 zdT_dX9_look_42 rfl
theorem dX9_look_66 : decode cX9_look 66 = .ok (.iload_n 3, 1) := zdcg 13 zdT_dX9_look_42 rfl
theorem dX9_look_67 : decode cX9_look 67 = .ok (.aload_n 0, 1) := zdcg 14 zdT_dX9_look_42 rfl
theorem dX9_look_68 : decode cX9_look 68 = .ok (.getfield 41, 3) := zdcg 15 zdT_dX9_look_42 rfl
theorem dX9_look_71 : decode cX9_look 71 = .ok (.aload_n 0, 1) := zdcg 16 zdT_dX9_look_42 rfl
theorem dX9_look_72 : decode cX9_look 72 = .ok (.getfield 50, 3) := zdcg 17 zdT_dX9_look_42 rfl
theorem dX9_look_75 : decode cX9_look 75 = .ok (.iload 4, 2) := zdcg 18 zdT_dX9_look_42 rfl
theorem dX9_look_77 : decode cX9_look 77 = .ok (.iaload, 1) := zdcg 19 zdT_dX9_look_42 rfl
theorem dX9_look_78 : decode cX9_look 78 = .ok (.iaload, 1) := zdcg 20 zdT_dX9_look_42 rfl
theorem dX9_look_79 : decode cX9_look 79 = .ok (.ifCond .ne 7, 3) := zdcg 21 zdT_dX9_look_42 rfl
theorem dX9_look_82 : decode cX9_look 82 = .ok (.iconst 1, 1) := zdcg 22 zdT_dX9_look_42 rfl
theorem dX9_look_83 : decode cX9_look 83 = .ok (.goto 4, 3) := zdcg 23 zdT_dX9_look_42 rfl
theorem dX9_look_86 : decode cX9_look 86 = .ok (.iconst 0, 1) := zdcg 24 zdT_dX9_look_42 rfl
theorem zdT_dX9_look_87 : zdch cX9_look [(87, (.invokestatic 187, 3)), (90, (.iadd, 1)), (91, (.istore_n 3, 1)), (92, (.iinc 4 1, 3)), (95, (.goto (-38), 3)), (98, (.iload_n 1, 1)), (99, (.tableswitch 88 0 8 #[49, 54, 59, 64, 69, 74, 79, 84, 86], 49)), (148, (.aload_n 0, 1)), (149, (.getfield 169, 3)), (152, (.ireturn, 1)), (153, (.aload_n 0, 1)), (154, (.getfield 184, 3)), (157, (.ireturn, 1)), (158, (.aload_n 0, 1)), (159, (.getfield 153, 3)), (162, (.ireturn, 1)), (163, (.aload_n 0, 1)), (164, (.getfield 172, 3)), (167, (.ireturn, 1)), (168, (.aload_n 0, 1)), (169, (.getfield 199, 3)), (172, (.ireturn, 1)), (173, (.aload_n 0, 1)), (174, (.getfield 166, 3)), (177, (.ireturn, 1))] = true := by decide +kernel
theorem dX9_look_87 : decode cX9_look 87 = .ok (.invokestatic 187, 3) := zdcg 0 zdT_dX9_look_87 rfl
theorem dX9_look_90 : decode cX9_look 90 = .ok (.iadd, 1) := zdcg 1 zdT_dX9_look_87 rfl
theorem dX9_look_91 : decode cX9_look 91 = .ok (.istore_n 3, 1) := zdcg 2 zdT_dX9_look_87 rfl
theorem dX9_look_92 : decode cX9_look 92 = .ok (.iinc 4 1, 3) := zdcg 3 zdT_dX9_look_87 rfl
theorem dX9_look_95 : decode cX9_look 95 = .ok (.goto (-38), 3) := zdcg 4 zdT_dX9_look_87 rfl
theorem dX9_look_98 : decode cX9_look 98 = .ok (.iload_n 1, 1) := zdcg 5 zdT_dX9_look_87 rfl
theorem dX9_look_99 : decode cX9_look 99 = .ok (.tableswitch 88 0 8 #[49, 54, 59, 64, 69, 74, 79, 84, 86], 49) := zdcg 6 zdT_dX9_look_87 rfl
theorem dX9_look_148 : decode cX9_look 148 = .ok (.aload_n 0, 1) := zdcg 7 zdT_dX9_look_87 rfl
theorem dX9_look_149 : decode cX9_look 149 = .ok (.getfield 169, 3) := zdcg 8 zdT_dX9_look_87 rfl
theorem dX9_look_152 : decode cX9_look 152 = .ok (.ireturn, 1) := zdcg 9 zdT_dX9_look_87 rfl
theorem dX9_look_153 : decode cX9_look 153 = .ok (.aload_n 0, 1) := zdcg 10 zdT_dX9_look_87 rfl
theorem dX9_look_154 : decode cX9_look 154 = .ok (.getfield 184, 3) := zdcg 11 zdT_dX9_look_87 rfl
theorem dX9_look_157 : decode cX9_look 157 = .ok (.ireturn, 1) := zdcg 12 zdT_dX9_look_87 rfl
theorem dX9_look_158 : decode cX9_look 158 = .ok (.aload_n 0, 1) := zdcg 13 zdT_dX9_look_87 rfl
theorem dX9_look_159 : decode cX9_look 159 = .ok (.getfield 153, 3) := zdcg 14 zdT_dX9_look_87 rfl
theorem dX9_look_162 : decode cX9_look 162 = .ok (.ireturn, 1) := zdcg 15 zdT_dX9_look_87 rfl
theorem dX9_look_163 : decode cX9_look 163 = .ok (.aload_n 0, 1) := zdcg 16 zdT_dX9_look_87 rfl
theorem dX9_look_164 : decode cX9_look 164 = .ok (.getfield 172, 3) := zdcg 17 zdT_dX9_look_87 rfl
theorem dX9_look_167 : decode cX9_look 167 = .ok (.ireturn, 1) := zdcg 18 zdT_dX9_look_87 rfl
theorem dX9_look_168 : decode cX9_look 168 = .ok (.aload_n 0, 1) := zdcg 19 zdT_dX9_look_87 rfl
theorem dX9_look_169 : decode cX9_look 169 = .ok (.getfield 199, 3) := zdcg 20 zdT_dX9_look_87 rfl
theorem dX9_look_172 : decode cX9_look 172 = .ok (.ireturn, 1) := zdcg 21 zdT_dX9_look_87 rfl
theorem dX9_look_173 : decode cX9_look 173 = .ok (.aload_n 0, 1) := zdcg 22 zdT_dX9_look_87 rfl
theorem dX9_look_174 : decode cX9_look 174 = .ok (.getfield 166, 3) := zdcg 23 zdT_dX9_look_87 rfl
theorem dX9_look_177 : decode cX9_look 177 = .ok (.ireturn, 1) := zdcg 24 zdT_dX9_look_87 rfl
theorem zdT_dX9_look_178 : zdch cX9_look [(178, (.aload_n 0, 1)), (179, (.getfield 347, 3)), (182, (.ireturn, 1)), (183, (.iload_n 2, 1)), (184, (.ireturn, 1)), (185, (.iload_n 3, 1)), (186, (.ireturn, 1)), (187, (.iconst (-1), 1)), (188, (.ireturn, 1))] = true := by decide +kernel
theorem dX9_look_178 : decode cX9_look 178 = .ok (.aload_n 0, 1) := zdcg 0 zdT_dX9_look_178 rfl
theorem dX9_look_179 : decode cX9_look 179 = .ok (.getfield 347, 3) := zdcg 1 zdT_dX9_look_178 rfl
theorem dX9_look_182 : decode cX9_look 182 = .ok (.ireturn, 1) := zdcg 2 zdT_dX9_look_178 rfl
theorem dX9_look_183 : decode cX9_look 183 = .ok (.iload_n 2, 1) := zdcg 3 zdT_dX9_look_178 rfl
theorem dX9_look_184 : decode cX9_look 184 = .ok (.ireturn, 1) := zdcg 4 zdT_dX9_look_178 rfl
theorem dX9_look_185 : decode cX9_look 185 = .ok (.iload_n 3, 1) := zdcg 5 zdT_dX9_look_178 rfl
theorem dX9_look_186 : decode cX9_look 186 = .ok (.ireturn, 1) := zdcg 6 zdT_dX9_look_178 rfl
theorem dX9_look_187 : decode cX9_look 187 = .ok (.iconst (-1), 1) := zdcg 7 zdT_dX9_look_178 rfl
theorem dX9_look_188 : decode cX9_look 188 = .ok (.ireturn, 1) := zdcg 8 zdT_dX9_look_178 rfl
end
section
/-! links, by program -/
theorem cr_X9_287 {X : zM} {fr frc pc mc ms : Nat} (h1 : X.1 = RX9) (hfr : frc + 1 ≤ fr) (dg : decode X.2.1 pc = .ok (.invokevirtual 287, 3)) : zRun X (RX9, cX9_isPart, 2, (some .boolean), "isPart") yX9_isPart fr frc pc 2 mc ms (fun ws As => ∃ (b : Nat) (As' : List Value) (q0 : Nat) (fs : List Value), As = .ref b :: As' ∧ ws[q0]? = some (b, .inr (9, fs))) := zrunV (n := 1) (ci := 9) rfl rfl wd_1223 wd_14 (by rw [h1]; exact wd_1220) wd_1222 ws_75 (by decide) hfr (by decide) dg
theorem cr_X9_291 {X : zM} {fr frc pc mc ms : Nat} (h1 : X.1 = RX9) (hfr : frc + 1 ≤ fr) (dg : decode X.2.1 pc = .ok (.invokevirtual 291, 3)) : zRun X (RX9, cX9_isTurned, 6, (some .boolean), "isTurned") yX9_isTurned fr frc pc 3 mc ms (fun ws As => ∃ (b : Nat) (As' : List Value) (q0 : Nat) (fs : List Value), As = .ref b :: As' ∧ ws[q0]? = some (b, .inr (9, fs))) := zrunV (n := 2) (ci := 9) rfl rfl wd_1235 wd_14 (by rw [h1]; exact wd_1232) wd_1234 ws_77 (by decide) hfr (by decide) dg
theorem cr_X9_295 {X : zM} {fr frc pc mc ms : Nat} (h1 : X.1 = RX9) (hfr : frc + 1 ≤ fr) (dg : decode X.2.1 pc = .ok (.invokevirtual 295, 3)) : zRun X (RX9, cX9_turned, 3, (some .int), "turned") yX9_turned fr frc pc 2 mc ms (fun ws As => ∃ (b : Nat) (As' : List Value) (q0 : Nat) (fs : List Value), As = .ref b :: As' ∧ ws[q0]? = some (b, .inr (9, fs))) := zrunV (n := 1) (ci := 9) rfl rfl wd_1231 wd_14 (by rw [h1]; exact wd_1228) wd_1230 ws_76 (by decide) hfr (by decide) dg
theorem cr_X9_298 {X : zM} {fr frc pc mc ms : Nat} (h1 : X.1 = RX9) (hfr : frc + 1 ≤ fr) (dg : decode X.2.1 pc = .ok (.invokestatic 298, 3)) : zRun X (RX9, cX9_partBy, 4, (some .int), "partBy") yX9_partBy fr frc pc 2 mc ms (fun _ _ => True) := zrunS (n := 2) wd_1242 wd_14 (by rw [h1]; exact wd_1240) wd_1241 (by decide) hfr (by decide) dg
theorem cr_X9_303 {X : zM} {fr frc pc mc ms : Nat} (h1 : X.1 = RX9) (hfr : frc + 1 ≤ fr) (dg : decode X.2.1 pc = .ok (.invokevirtual 303, 3)) : zRun X (RX9, cX9_isRegularOne, 2, (some .boolean), "isRegularOne") yX9_isRegularOne fr frc pc 2 mc ms (fun ws As => ∃ (b : Nat) (As' : List Value) (q0 : Nat) (fs : List Value), As = .ref b :: As' ∧ ws[q0]? = some (b, .inr (9, fs))) := zrunV (n := 1) (ci := 9) rfl rfl wd_1271 wd_14 (by rw [h1]; exact wd_1268) wd_1270 ws_78 (by decide) hfr (by decide) dg
theorem cr_X9_306 {X : zM} {fr frc pc mc ms : Nat} (h1 : X.1 = RX9) (hfr : frc + 1 ≤ fr) (dg : decode X.2.1 pc = .ok (.invokevirtual 306, 3)) : zRun X (RX9, cX9_cartanOf, 5, (some .int), "cartanOf") yX9_cartanOf fr frc pc 3 mc ms (fun ws As => ∃ (b : Nat) (As' : List Value) (q0 : Nat) (fs : List Value), As = .ref b :: As' ∧ ws[q0]? = some (b, .inr (9, fs))) := zrunV (n := 2) (ci := 9) rfl rfl wd_1279 wd_14 (by rw [h1]; exact wd_1276) wd_1278 ws_79 (by decide) hfr (by decide) dg
theorem gf_X9_112 [zGh] {d : Nat} {X : zM} {fr : Nat} {P : zP d} {pc : Nat} {k : zK d} (h1 : X.1 = RX9) (dg : decode X.2.1 pc = .ok (.getfield 112, 3)) (hs : zSim X fr P (pc + 3) k) : zSim X fr P pc (xgfR 25 42 k) := sm_getfieldR (ci := 9) (n := 42) (C := RX9) (T := TX9) (N := 63) rfl rfl inz9 rfl (by decide) rfl (by rw [h1]; exact wd_1060) rfl dg hs
theorem gf_X9_108 [zGh] {d : Nat} {X : zM} {fr : Nat} {P : zP d} {pc : Nat} {k : zK d} (h1 : X.1 = RX9) (dg : decode X.2.1 pc = .ok (.getfield 108, 3)) (hs : zSim X fr P (pc + 3) k) : zSim X fr P pc (xgfR 25 41 k) := sm_getfieldR (ci := 9) (n := 41) (C := RX9) (T := TX9) (N := 63) rfl rfl inz9 rfl (by decide) rfl (by rw [h1]; exact wd_1059) rfl dg hs
theorem cr_X9_309 {X : zM} {fr frc pc mc ms : Nat} (h1 : X.1 = RX9) (hfr : frc + 1 ≤ fr) (dg : decode X.2.1 pc = .ok (.invokevirtual 309, 3)) : zRun X (RX9, cX9_membersOf, 4, (some .int), "membersOf") yX9_membersOf fr frc pc 2 mc ms (fun ws As => ∃ (b : Nat) (As' : List Value) (q0 : Nat) (fs : List Value), As = .ref b :: As' ∧ ws[q0]? = some (b, .inr (9, fs))) := zrunV (n := 1) (ci := 9) rfl rfl wd_1295 wd_14 (by rw [h1]; exact wd_1292) wd_1294 ws_80 (by decide) hfr (by decide) dg
theorem cr_X9_312 {X : zM} {fr frc pc mc ms : Nat} (h1 : X.1 = RX9) (hfr : frc + 1 ≤ fr) (dg : decode X.2.1 pc = .ok (.invokevirtual 312, 3)) : zRun X (RX9, cX9_defect, 5, (some .int), "defect") yX9_defect fr frc pc 2 mc ms (fun ws As => ∃ (b : Nat) (As' : List Value) (q0 : Nat) (fs : List Value), As = .ref b :: As' ∧ ws[q0]? = some (b, .inr (9, fs))) := zrunV (n := 1) (ci := 9) rfl rfl wd_1299 wd_14 (by rw [h1]; exact wd_1296) wd_1298 ws_81 (by decide) hfr (by decide) dg
theorem cr_X9_315 {X : zM} {fr frc pc mc ms : Nat} (h1 : X.1 = RX9) (hfr : frc + 1 ≤ fr) (dg : decode X.2.1 pc = .ok (.invokevirtual 315, 3)) : zRun X (RX9, cX9_determinant, 10, (some .long), "determinant") yX9_determinant fr frc pc 2 mc ms (fun ws As => ∃ (b : Nat) (As' : List Value) (q0 : Nat) (fs : List Value), As = .ref b :: As' ∧ ws[q0]? = some (b, .inr (9, fs))) := zrunV (n := 1) (ci := 9) rfl rfl wd_1303 wd_14 (by rw [h1]; exact wd_1300) wd_1302 ws_82 (by decide) hfr (by decide) dg
theorem cr_X9_319 {X : zM} {fr frc pc mc ms : Nat} (h1 : X.1 = RX9) (hfr : frc + 1 ≤ fr) (dg : decode X.2.1 pc = .ok (.invokestatic 319, 3)) : zRun X (RX9, cX9_isSlot, 1, (some .boolean), "isSlot") yX9_isSlot fr frc pc 1 mc ms (fun _ _ => True) := zrunS (n := 1) wd_1310 wd_14 (by rw [h1]; exact wd_1308) wd_1309 (by decide) hfr (by decide) dg
theorem cr_X9_335 {X : zM} {fr frc pc mc ms : Nat} (h1 : X.1 = RX9) (hfr : frc + 1 ≤ fr) (dg : decode X.2.1 pc = .ok (.invokestatic 335, 3)) : zRun X (RX9, cX9_divisor, 10, (some .long), "divisor") yX9_divisor fr frc pc 2 mc ms (fun _ _ => True) := zrunS (n := 2) wd_1327 wd_14 (by rw [h1]; exact wd_1325) wd_1326 (by decide) hfr (by decide) dg
theorem cr_X9_332 {X : zM} {fr frc pc mc ms : Nat} (h1 : X.1 = RX9) (hfr : frc + 1 ≤ fr) (dg : decode X.2.1 pc = .ok (.invokevirtual 332, 3)) : zRun X (RX9, cX9_modularSum, 6, (some .long), "modularSum") yX9_modularSum fr frc pc 3 mc ms (fun ws As => ∃ (b : Nat) (As' : List Value) (q0 : Nat) (fs : List Value), As = .ref b :: As' ∧ ws[q0]? = some (b, .inr (9, fs))) := zrunV (n := 2) (ci := 9) rfl rfl wd_1324 wd_14 (by rw [h1]; exact wd_1321) wd_1323 ws_84 (by decide) hfr (by decide) dg
theorem cr_X9_328 {X : zM} {fr frc pc mc ms : Nat} (h1 : X.1 = RX9) (hfr : frc + 1 ≤ fr) (dg : decode X.2.1 pc = .ok (.invokevirtual 328, 3)) : zRun X (RX9, cX9_ordinarySum, 6, (some .long), "ordinarySum") yX9_ordinarySum fr frc pc 3 mc ms (fun ws As => ∃ (b : Nat) (As' : List Value) (q0 : Nat) (fs : List Value), As = .ref b :: As' ∧ ws[q0]? = some (b, .inr (9, fs))) := zrunV (n := 2) (ci := 9) rfl rfl wd_1320 wd_14 (by rw [h1]; exact wd_1317) wd_1319 ws_83 (by decide) hfr (by decide) dg
theorem cr_X9_343 {X : zM} {fr frc pc mc ms : Nat} (h1 : X.1 = RX9) (hfr : frc + 1 ≤ fr) (dg : decode X.2.1 pc = .ok (.invokevirtual 343, 3)) : zRun X (RX9, cX9_areWhole, 7, (some .boolean), "areWhole") yX9_areWhole fr frc pc 4 mc ms (fun ws As => ∃ (b : Nat) (As' : List Value) (q0 : Nat) (fs : List Value), As = .ref b :: As' ∧ ws[q0]? = some (b, .inr (9, fs))) := zrunV (n := 3) (ci := 9) rfl rfl wd_1341 wd_14 (by rw [h1]; exact wd_1338) wd_1340 ws_85 (by decide) hfr (by decide) dg
theorem gf_X9_118 [zGh] {d : Nat} {X : zM} {fr : Nat} {P : zP d} {pc : Nat} {k : zK d} (h1 : X.1 = RX9) (dg : decode X.2.1 pc = .ok (.getfield 118, 3)) (hs : zSim X fr P (pc + 3) k) : zSim X fr P pc (xgfR 25 44 k) := sm_getfieldR (ci := 9) (n := 44) (C := RX9) (T := TX9) (N := 63) rfl rfl inz9 rfl (by decide) rfl (by rw [h1]; exact wd_1062) rfl dg hs
theorem gf_X9_121 [zGh] {d : Nat} {X : zM} {fr : Nat} {P : zP d} {pc : Nat} {k : zK d} (h1 : X.1 = RX9) (dg : decode X.2.1 pc = .ok (.getfield 121, 3)) (hs : zSim X fr P (pc + 3) k) : zSim X fr P pc (xgfR 25 45 k) := sm_getfieldR (ci := 9) (n := 45) (C := RX9) (T := TX9) (N := 63) rfl rfl inz9 rfl (by decide) rfl (by rw [h1]; exact wd_1063) rfl dg hs
theorem gf_X9_347 [zGh] {d : Nat} {X : zM} {fr : Nat} {P : zP d} {pc : Nat} {k : zK d} (h1 : X.1 = RX9) (dg : decode X.2.1 pc = .ok (.getfield 347, 3)) (hs : zSim X fr P (pc + 3) k) : zSim X fr P pc (xgfI 25 46 k) := sm_getfieldI (ci := 9) (n := 46) (C := RX9) (T := TX9) (N := 63) rfl rfl inz9 rfl (by decide) rfl (by rw [h1]; exact wd_1064) rfl dg hs
theorem pf_X9_347 [zGh] {d : Nat} {X : zM} {fr : Nat} {P : zP d} {pc : Nat} {k : zK d} (h1 : X.1 = RX9) (dg : decode X.2.1 pc = .ok (.putfield 347, 3)) (hs : zSim X fr P (pc + 3) k) : zSim X fr P pc (xpfI 25 46 k) := sm_putI (ci := 9) (n := 46) (ty := tyX9 46) rfl (by decide) rfl rfl (zput (C := RX9) (T := TX9) (N := 63) (ty0 := tyX9) (ty := tyX9 46) inz9 tyX9_ok nmX9 rfl (by decide) (by rw [h1]; exact wd_1064) rfl rfl dg) hs
theorem cr_X9_350 {X : zM} {fr frc pc mc ms : Nat} (h1 : X.1 = RX9) (hfr : frc + 1 ≤ fr) (dg : decode X.2.1 pc = .ok (.invokevirtual 350, 3)) : zRun X (RX9, cX9_four, 3, none, "four") yX9_four fr frc pc 2 mc ms (fun ws As => ∃ (b : Nat) (As' : List Value) (q0 : Nat) (fs : List Value), As = .ref b :: As' ∧ ws[q0]? = some (b, .inr (9, fs))) := zrunV (n := 1) (ci := 9) rfl rfl wd_1353 wd_14 (by rw [h1]; exact wd_1350) wd_1352 ws_86 (by decide) hfr (by decide) dg
theorem gf_X9_361 [zGh] {d : Nat} {X : zM} {fr : Nat} {P : zP d} {pc : Nat} {k : zK d} (h1 : X.1 = RX9) (dg : decode X.2.1 pc = .ok (.getfield 361, 3)) (hs : zSim X fr P (pc + 3) k) : zSim X fr P pc (xgfI 25 50 k) := sm_getfieldI (ci := 9) (n := 50) (C := RX9) (T := TX9) (N := 63) rfl rfl inz9 rfl (by decide) rfl (by rw [h1]; exact wd_1068) rfl dg hs
theorem gf_X9_128 [zGh] {d : Nat} {X : zM} {fr : Nat} {P : zP d} {pc : Nat} {k : zK d} (h1 : X.1 = RX9) (dg : decode X.2.1 pc = .ok (.getfield 128, 3)) (hs : zSim X fr P (pc + 3) k) : zSim X fr P pc (xgfR 25 51 k) := sm_getfieldR (ci := 9) (n := 51) (C := RX9) (T := TX9) (N := 63) rfl rfl inz9 rfl (by decide) rfl (by rw [h1]; exact wd_1069) rfl dg hs
theorem gf_X9_124 [zGh] {d : Nat} {X : zM} {fr : Nat} {P : zP d} {pc : Nat} {k : zK d} (h1 : X.1 = RX9) (dg : decode X.2.1 pc = .ok (.getfield 124, 3)) (hs : zSim X fr P (pc + 3) k) : zSim X fr P pc (xgfI 25 49 k) := sm_getfieldI (ci := 9) (n := 49) (C := RX9) (T := TX9) (N := 63) rfl rfl inz9 rfl (by decide) rfl (by rw [h1]; exact wd_1067) rfl dg hs
theorem gf_X9_356 [zGh] {d : Nat} {X : zM} {fr : Nat} {P : zP d} {pc : Nat} {k : zK d} (h1 : X.1 = RX9) (dg : decode X.2.1 pc = .ok (.getfield 356, 3)) (hs : zSim X fr P (pc + 3) k) : zSim X fr P pc (xgfI 25 48 k) := sm_getfieldI (ci := 9) (n := 48) (C := RX9) (T := TX9) (N := 63) rfl rfl inz9 rfl (by decide) rfl (by rw [h1]; exact wd_1066) rfl dg hs
end
