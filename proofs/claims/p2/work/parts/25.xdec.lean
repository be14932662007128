/-! instructions, by program -/
theorem dX9_partBy_0 : decode cX9_partBy 0 = .ok (.iload_n 1, 1) := by decide +kernel
theorem dX9_partBy_1 : decode cX9_partBy 1 = .ok (.istore_n 2, 1) := by decide +kernel
theorem dX9_partBy_2 : decode cX9_partBy 2 = .ok (.bipush 11, 2) := by decide +kernel
theorem dX9_partBy_4 : decode cX9_partBy 4 = .ok (.istore_n 3, 1) := by decide +kernel
theorem dX9_partBy_5 : decode cX9_partBy 5 = .ok (.iload_n 3, 1) := by decide +kernel
theorem dX9_partBy_6 : decode cX9_partBy 6 = .ok (.ifCond .lt 33, 3) := by decide +kernel
theorem dX9_partBy_9 : decode cX9_partBy 9 = .ok (.iload_n 0, 1) := by decide +kernel
theorem dX9_partBy_10 : decode cX9_partBy 10 = .ok (.iload_n 3, 1) := by decide +kernel
theorem dX9_partBy_11 : decode cX9_partBy 11 = .ok (.ishr, 1) := by decide +kernel
theorem dX9_partBy_12 : decode cX9_partBy 12 = .ok (.iconst 1, 1) := by decide +kernel
theorem dX9_partBy_13 : decode cX9_partBy 13 = .ok (.iand, 1) := by decide +kernel
theorem dX9_partBy_14 : decode cX9_partBy 14 = .ok (.ifCond .ne 6, 3) := by decide +kernel
theorem dX9_partBy_17 : decode cX9_partBy 17 = .ok (.goto 16, 3) := by decide +kernel
theorem dX9_partBy_20 : decode cX9_partBy 20 = .ok (.iload_n 2, 1) := by decide +kernel
theorem dX9_partBy_21 : decode cX9_partBy 21 = .ok (.ifCond .ne 9, 3) := by decide +kernel
theorem dX9_partBy_24 : decode cX9_partBy 24 = .ok (.iload_n 3, 1) := by decide +kernel
theorem dX9_partBy_25 : decode cX9_partBy 25 = .ok (.iconst 5, 1) := by decide +kernel
theorem dX9_partBy_26 : decode cX9_partBy 26 = .ok (.iload_n 1, 1) := by decide +kernel
theorem dX9_partBy_27 : decode cX9_partBy 27 = .ok (.isub, 1) := by decide +kernel
theorem dX9_partBy_28 : decode cX9_partBy 28 = .ok (.isub, 1) := by decide +kernel
theorem dX9_partBy_29 : decode cX9_partBy 29 = .ok (.ireturn, 1) := by decide +kernel
theorem dX9_partBy_30 : decode cX9_partBy 30 = .ok (.iinc 2 (-1), 3) := by decide +kernel
theorem dX9_partBy_33 : decode cX9_partBy 33 = .ok (.iinc 3 (-1), 3) := by decide +kernel
theorem dX9_partBy_36 : decode cX9_partBy 36 = .ok (.goto (-31), 3) := by decide +kernel
theorem dX9_partBy_39 : decode cX9_partBy 39 = .ok (.iconst 0, 1) := by decide +kernel
theorem dX9_partBy_40 : decode cX9_partBy 40 = .ok (.ireturn, 1) := by decide +kernel
theorem dX9_isPart_0 : decode cX9_isPart 0 = .ok (.iload_n 1, 1) := by decide +kernel
theorem dX9_isPart_1 : decode cX9_isPart 1 = .ok (.i2l, 1) := by decide +kernel
theorem dX9_isPart_2 : decode cX9_isPart 2 = .ok (.lconst 0, 1) := by decide +kernel
theorem dX9_isPart_3 : decode cX9_isPart 3 = .ok (.aload_n 0, 1) := by decide +kernel
theorem dX9_isPart_4 : decode cX9_isPart 4 = .ok (.getfield 153, 3) := by decide +kernel
theorem dX9_isPart_7 : decode cX9_isPart 7 = .ok (.iconst 1, 1) := by decide +kernel
theorem dX9_isPart_8 : decode cX9_isPart 8 = .ok (.isub, 1) := by decide +kernel
theorem dX9_isPart_9 : decode cX9_isPart 9 = .ok (.i2l, 1) := by decide +kernel
theorem dX9_isPart_10 : decode cX9_isPart 10 = .ok (.invokestatic 283, 3) := by decide +kernel
theorem dX9_isPart_13 : decode cX9_isPart 13 = .ok (.ireturn, 1) := by decide +kernel
theorem dX9_partition_0 : decode cX9_partition 0 = .ok (.aload_n 0, 1) := by decide +kernel
theorem dX9_partition_1 : decode cX9_partition 1 = .ok (.iload_n 1, 1) := by decide +kernel
theorem dX9_partition_2 : decode cX9_partition 2 = .ok (.invokevirtual 287, 3) := by decide +kernel
theorem dX9_partition_5 : decode cX9_partition 5 = .ok (.ifCond .eq 8, 3) := by decide +kernel
theorem dX9_partition_8 : decode cX9_partition 8 = .ok (.iload_n 2, 1) := by decide +kernel
theorem dX9_partition_9 : decode cX9_partition 9 = .ok (.iconst (-1), 1) := by decide +kernel
theorem dX9_partition_10 : decode cX9_partition 10 = .ok (.if_icmp .ge 5, 3) := by decide +kernel
theorem dX9_partition_13 : decode cX9_partition 13 = .ok (.iconst (-1), 1) := by decide +kernel
theorem dX9_partition_14 : decode cX9_partition 14 = .ok (.ireturn, 1) := by decide +kernel
theorem dX9_partition_15 : decode cX9_partition 15 = .ok (.iload_n 2, 1) := by decide +kernel
theorem dX9_partition_16 : decode cX9_partition 16 = .ok (.iconst (-1), 1) := by decide +kernel
theorem dX9_partition_17 : decode cX9_partition 17 = .ok (.if_icmp .ne 12, 3) := by decide +kernel
theorem dX9_partition_20 : decode cX9_partition 20 = .ok (.aload_n 0, 1) := by decide +kernel
theorem dX9_partition_21 : decode cX9_partition 21 = .ok (.getfield 13, 3) := by decide +kernel
theorem dX9_partition_24 : decode cX9_partition 24 = .ok (.iload_n 1, 1) := by decide +kernel
theorem dX9_partition_25 : decode cX9_partition 25 = .ok (.iaload, 1) := by decide +kernel
theorem dX9_partition_26 : decode cX9_partition 26 = .ok (.goto 9, 3) := by decide +kernel
theorem dX9_partition_29 : decode cX9_partition 29 = .ok (.aload_n 0, 1) := by decide +kernel
theorem dX9_partition_30 : decode cX9_partition 30 = .ok (.iload_n 1, 1) := by decide +kernel
theorem dX9_partition_31 : decode cX9_partition 31 = .ok (.iload_n 2, 1) := by decide +kernel
theorem dX9_partition_32 : decode cX9_partition 32 = .ok (.invokevirtual 175, 3) := by decide +kernel
theorem dX9_partition_35 : decode cX9_partition 35 = .ok (.ireturn, 1) := by decide +kernel
theorem dX9_isTurned_0 : decode cX9_isTurned 0 = .ok (.iconst 0, 1) := by decide +kernel
theorem dX9_isTurned_1 : decode cX9_isTurned 1 = .ok (.istore_n 3, 1) := by decide +kernel
theorem dX9_isTurned_2 : decode cX9_isTurned 2 = .ok (.iload_n 3, 1) := by decide +kernel
theorem dX9_isTurned_3 : decode cX9_isTurned 3 = .ok (.bipush 6, 2) := by decide +kernel
theorem dX9_isTurned_5 : decode cX9_isTurned 5 = .ok (.if_icmp .ge 65, 3) := by decide +kernel
theorem dX9_isTurned_8 : decode cX9_isTurned 8 = .ok (.iconst 0, 1) := by decide +kernel
theorem dX9_isTurned_9 : decode cX9_isTurned 9 = .ok (.istore 4, 2) := by decide +kernel
theorem dX9_isTurned_11 : decode cX9_isTurned 11 = .ok (.iconst 0, 1) := by decide +kernel
theorem dX9_isTurned_12 : decode cX9_isTurned 12 = .ok (.istore 5, 2) := by decide +kernel
theorem dX9_isTurned_14 : decode cX9_isTurned 14 = .ok (.iload 5, 2) := by decide +kernel
theorem dX9_isTurned_16 : decode cX9_isTurned 16 = .ok (.bipush 6, 2) := by decide +kernel
theorem dX9_isTurned_18 : decode cX9_isTurned 18 = .ok (.if_icmp .ge 33, 3) := by decide +kernel
theorem dX9_isTurned_21 : decode cX9_isTurned 21 = .ok (.iload 4, 2) := by decide +kernel
theorem dX9_isTurned_23 : decode cX9_isTurned 23 = .ok (.aload_n 0, 1) := by decide +kernel
theorem dX9_isTurned_24 : decode cX9_isTurned 24 = .ok (.iload_n 1, 1) := by decide +kernel
theorem dX9_isTurned_25 : decode cX9_isTurned 25 = .ok (.iload 5, 2) := by decide +kernel
theorem dX9_isTurned_27 : decode cX9_isTurned 27 = .ok (.invokevirtual 175, 3) := by decide +kernel
theorem dX9_isTurned_30 : decode cX9_isTurned 30 = .ok (.iload_n 3, 1) := by decide +kernel
theorem dX9_isTurned_31 : decode cX9_isTurned 31 = .ok (.if_icmp .le 7, 3) := by decide +kernel
theorem dX9_isTurned_34 : decode cX9_isTurned 34 = .ok (.iconst 1, 1) := by decide +kernel
theorem dX9_isTurned_35 : decode cX9_isTurned 35 = .ok (.goto 4, 3) := by decide +kernel
theorem dX9_isTurned_38 : decode cX9_isTurned 38 = .ok (.iconst 0, 1) := by decide +kernel
theorem dX9_isTurned_39 : decode cX9_isTurned 39 = .ok (.invokestatic 187, 3) := by decide +kernel
theorem dX9_isTurned_42 : decode cX9_isTurned 42 = .ok (.iadd, 1) := by decide +kernel
theorem dX9_isTurned_43 : decode cX9_isTurned 43 = .ok (.istore 4, 2) := by decide +kernel
theorem dX9_isTurned_45 : decode cX9_isTurned 45 = .ok (.iinc 5 1, 3) := by decide +kernel
theorem dX9_isTurned_48 : decode cX9_isTurned 48 = .ok (.goto (-34), 3) := by decide +kernel
theorem dX9_isTurned_51 : decode cX9_isTurned 51 = .ok (.aload_n 0, 1) := by decide +kernel
theorem dX9_isTurned_52 : decode cX9_isTurned 52 = .ok (.iload_n 2, 1) := by decide +kernel
theorem dX9_isTurned_53 : decode cX9_isTurned 53 = .ok (.iload_n 3, 1) := by decide +kernel
theorem dX9_isTurned_54 : decode cX9_isTurned 54 = .ok (.invokevirtual 175, 3) := by decide +kernel
theorem dX9_isTurned_57 : decode cX9_isTurned 57 = .ok (.iload 4, 2) := by decide +kernel
theorem dX9_isTurned_59 : decode cX9_isTurned 59 = .ok (.if_icmp .eq 5, 3) := by decide +kernel
theorem dX9_isTurned_62 : decode cX9_isTurned 62 = .ok (.iconst 0, 1) := by decide +kernel
theorem dX9_isTurned_63 : decode cX9_isTurned 63 = .ok (.ireturn, 1) := by decide +kernel
theorem dX9_isTurned_64 : decode cX9_isTurned 64 = .ok (.iinc 3 1, 3) := by decide +kernel
theorem dX9_isTurned_67 : decode cX9_isTurned 67 = .ok (.goto (-65), 3) := by decide +kernel
theorem dX9_isTurned_70 : decode cX9_isTurned 70 = .ok (.iconst 1, 1) := by decide +kernel
theorem dX9_isTurned_71 : decode cX9_isTurned 71 = .ok (.ireturn, 1) := by decide +kernel
theorem dX9_turned_0 : decode cX9_turned 0 = .ok (.iconst 0, 1) := by decide +kernel
theorem dX9_turned_1 : decode cX9_turned 1 = .ok (.istore_n 2, 1) := by decide +kernel
theorem dX9_turned_2 : decode cX9_turned 2 = .ok (.aload_n 0, 1) := by decide +kernel
theorem dX9_turned_3 : decode cX9_turned 3 = .ok (.iload_n 1, 1) := by decide +kernel
theorem dX9_turned_4 : decode cX9_turned 4 = .ok (.iload_n 2, 1) := by decide +kernel
theorem dX9_turned_5 : decode cX9_turned 5 = .ok (.invokevirtual 291, 3) := by decide +kernel
theorem dX9_turned_8 : decode cX9_turned 8 = .ok (.ifCond .ne 9, 3) := by decide +kernel
theorem dX9_turned_11 : decode cX9_turned 11 = .ok (.iinc 2 1, 3) := by decide +kernel
theorem dX9_turned_14 : decode cX9_turned 14 = .ok (.goto (-12), 3) := by decide +kernel
theorem dX9_turned_17 : decode cX9_turned 17 = .ok (.iload_n 2, 1) := by decide +kernel
theorem dX9_turned_18 : decode cX9_turned 18 = .ok (.ireturn, 1) := by decide +kernel
theorem dX9_of_0 : decode cX9_of 0 = .ok (.aload_n 0, 1) := by decide +kernel
theorem dX9_of_1 : decode cX9_of 1 = .ok (.iload_n 1, 1) := by decide +kernel
theorem dX9_of_2 : decode cX9_of 2 = .ok (.invokevirtual 287, 3) := by decide +kernel
theorem dX9_of_5 : decode cX9_of 5 = .ok (.ifCond .ne 5, 3) := by decide +kernel
theorem dX9_of_8 : decode cX9_of 8 = .ok (.iconst (-1), 1) := by decide +kernel
theorem dX9_of_9 : decode cX9_of 9 = .ok (.ireturn, 1) := by decide +kernel
theorem dX9_of_10 : decode cX9_of 10 = .ok (.iload_n 2, 1) := by decide +kernel
theorem dX9_of_11 : decode cX9_of 11 = .ok (.tableswitch 114 0 7 #[45, 55, 62, 69, 76, 83, 89, 107], 45) := by decide +kernel
theorem dX9_of_56 : decode cX9_of 56 = .ok (.aload_n 0, 1) := by decide +kernel
theorem dX9_of_57 : decode cX9_of 57 = .ok (.getfield 22, 3) := by decide +kernel
theorem dX9_of_60 : decode cX9_of 60 = .ok (.iload_n 1, 1) := by decide +kernel
theorem dX9_of_61 : decode cX9_of 61 = .ok (.baload, 1) := by decide +kernel
theorem dX9_of_62 : decode cX9_of 62 = .ok (.invokestatic 187, 3) := by decide +kernel
theorem dX9_of_65 : decode cX9_of 65 = .ok (.ireturn, 1) := by decide +kernel
theorem dX9_of_66 : decode cX9_of 66 = .ok (.aload_n 0, 1) := by decide +kernel
theorem dX9_of_67 : decode cX9_of 67 = .ok (.getfield 41, 3) := by decide +kernel
theorem dX9_of_70 : decode cX9_of 70 = .ok (.iload_n 1, 1) := by decide +kernel
theorem dX9_of_71 : decode cX9_of 71 = .ok (.iaload, 1) := by decide +kernel
theorem dX9_of_72 : decode cX9_of 72 = .ok (.ireturn, 1) := by decide +kernel
theorem dX9_of_73 : decode cX9_of 73 = .ok (.aload_n 0, 1) := by decide +kernel
theorem dX9_of_74 : decode cX9_of 74 = .ok (.getfield 47, 3) := by decide +kernel
theorem dX9_of_77 : decode cX9_of 77 = .ok (.iload_n 1, 1) := by decide +kernel
theorem dX9_of_78 : decode cX9_of 78 = .ok (.iaload, 1) := by decide +kernel
theorem dX9_of_79 : decode cX9_of 79 = .ok (.ireturn, 1) := by decide +kernel
theorem dX9_of_80 : decode cX9_of 80 = .ok (.aload_n 0, 1) := by decide +kernel
theorem dX9_of_81 : decode cX9_of 81 = .ok (.getfield 56, 3) := by decide +kernel
theorem dX9_of_84 : decode cX9_of 84 = .ok (.iload_n 1, 1) := by decide +kernel
theorem dX9_of_85 : decode cX9_of 85 = .ok (.iaload, 1) := by decide +kernel
theorem dX9_of_86 : decode cX9_of 86 = .ok (.ireturn, 1) := by decide +kernel
theorem dX9_of_87 : decode cX9_of 87 = .ok (.aload_n 0, 1) := by decide +kernel
theorem dX9_of_88 : decode cX9_of 88 = .ok (.getfield 93, 3) := by decide +kernel
theorem dX9_of_91 : decode cX9_of 91 = .ok (.iload_n 1, 1) := by decide +kernel
theorem dX9_of_92 : decode cX9_of 92 = .ok (.iaload, 1) := by decide +kernel
theorem dX9_of_93 : decode cX9_of 93 = .ok (.ireturn, 1) := by decide +kernel
theorem dX9_of_94 : decode cX9_of 94 = .ok (.aload_n 0, 1) := by decide +kernel
theorem dX9_of_95 : decode cX9_of 95 = .ok (.iload_n 1, 1) := by decide +kernel
theorem dX9_of_96 : decode cX9_of 96 = .ok (.invokevirtual 295, 3) := by decide +kernel
theorem dX9_of_99 : decode cX9_of 99 = .ok (.ireturn, 1) := by decide +kernel
theorem dX9_of_100 : decode cX9_of 100 = .ok (.aload_n 0, 1) := by decide +kernel
theorem dX9_of_101 : decode cX9_of 101 = .ok (.iload_n 1, 1) := by decide +kernel
theorem dX9_of_102 : decode cX9_of 102 = .ok (.invokevirtual 295, 3) := by decide +kernel
theorem dX9_of_105 : decode cX9_of 105 = .ok (.iload_n 1, 1) := by decide +kernel
theorem dX9_of_106 : decode cX9_of 106 = .ok (.if_icmp .ne 7, 3) := by decide +kernel
theorem dX9_of_109 : decode cX9_of 109 = .ok (.iconst 1, 1) := by decide +kernel
theorem dX9_of_110 : decode cX9_of 110 = .ok (.goto 4, 3) := by decide +kernel
theorem dX9_of_113 : decode cX9_of 113 = .ok (.iconst 0, 1) := by decide +kernel
theorem dX9_of_114 : decode cX9_of 114 = .ok (.invokestatic 187, 3) := by decide +kernel
theorem dX9_of_117 : decode cX9_of 117 = .ok (.ireturn, 1) := by decide +kernel
theorem dX9_of_118 : decode cX9_of 118 = .ok (.aload_n 0, 1) := by decide +kernel
theorem dX9_of_119 : decode cX9_of 119 = .ok (.getfield 32, 3) := by decide +kernel
theorem dX9_of_122 : decode cX9_of 122 = .ok (.iload_n 1, 1) := by decide +kernel
theorem dX9_of_123 : decode cX9_of 123 = .ok (.iaload, 1) := by decide +kernel
theorem dX9_of_124 : decode cX9_of 124 = .ok (.ireturn, 1) := by decide +kernel
theorem dX9_of_125 : decode cX9_of 125 = .ok (.iconst (-1), 1) := by decide +kernel
theorem dX9_of_126 : decode cX9_of 126 = .ok (.ireturn, 1) := by decide +kernel
theorem dX9_core_0 : decode cX9_core 0 = .ok (.aload_n 0, 1) := by decide +kernel
theorem dX9_core_1 : decode cX9_core 1 = .ok (.iload_n 1, 1) := by decide +kernel
theorem dX9_core_2 : decode cX9_core 2 = .ok (.invokevirtual 287, 3) := by decide +kernel
theorem dX9_core_5 : decode cX9_core 5 = .ok (.ifCond .eq 8, 3) := by decide +kernel
theorem dX9_core_8 : decode cX9_core 8 = .ok (.iload_n 2, 1) := by decide +kernel
theorem dX9_core_9 : decode cX9_core 9 = .ok (.iconst (-1), 1) := by decide +kernel
theorem dX9_core_10 : decode cX9_core 10 = .ok (.if_icmp .ge 5, 3) := by decide +kernel
theorem dX9_core_13 : decode cX9_core 13 = .ok (.iconst (-1), 1) := by decide +kernel
theorem dX9_core_14 : decode cX9_core 14 = .ok (.ireturn, 1) := by decide +kernel
theorem dX9_core_15 : decode cX9_core 15 = .ok (.iload_n 2, 1) := by decide +kernel
theorem dX9_core_16 : decode cX9_core 16 = .ok (.iconst (-1), 1) := by decide +kernel
theorem dX9_core_17 : decode cX9_core 17 = .ok (.if_icmp .ne 20, 3) := by decide +kernel
theorem dX9_core_20 : decode cX9_core 20 = .ok (.aload_n 0, 1) := by decide +kernel
theorem dX9_core_21 : decode cX9_core 21 = .ok (.getfield 169, 3) := by decide +kernel
theorem dX9_core_24 : decode cX9_core 24 = .ok (.aload_n 0, 1) := by decide +kernel
theorem dX9_core_25 : decode cX9_core 25 = .ok (.getfield 184, 3) := by decide +kernel
theorem dX9_core_28 : decode cX9_core 28 = .ok (.aload_n 0, 1) := by decide +kernel
theorem dX9_core_29 : decode cX9_core 29 = .ok (.getfield 41, 3) := by decide +kernel
theorem dX9_core_32 : decode cX9_core 32 = .ok (.iload_n 1, 1) := by decide +kernel
theorem dX9_core_33 : decode cX9_core 33 = .ok (.iaload, 1) := by decide +kernel
theorem dX9_core_34 : decode cX9_core 34 = .ok (.imul, 1) := by decide +kernel
theorem dX9_core_35 : decode cX9_core 35 = .ok (.isub, 1) := by decide +kernel
theorem dX9_core_36 : decode cX9_core 36 = .ok (.ireturn, 1) := by decide +kernel
theorem dX9_core_37 : decode cX9_core 37 = .ok (.iload_n 2, 1) := by decide +kernel
theorem dX9_core_38 : decode cX9_core 38 = .ok (.bipush 6, 2) := by decide +kernel
theorem dX9_core_40 : decode cX9_core 40 = .ok (.if_icmp .ge 16, 3) := by decide +kernel
theorem dX9_core_43 : decode cX9_core 43 = .ok (.aload_n 0, 1) := by decide +kernel
theorem dX9_core_44 : decode cX9_core 44 = .ok (.getfield 44, 3) := by decide +kernel
theorem dX9_core_47 : decode cX9_core 47 = .ok (.iload_n 1, 1) := by decide +kernel
theorem dX9_core_48 : decode cX9_core 48 = .ok (.iaload, 1) := by decide +kernel
theorem dX9_core_49 : decode cX9_core 49 = .ok (.iload_n 2, 1) := by decide +kernel
theorem dX9_core_50 : decode cX9_core 50 = .ok (.invokestatic 298, 3) := by decide +kernel
theorem dX9_core_53 : decode cX9_core 53 = .ok (.goto 4, 3) := by decide +kernel
theorem dX9_core_56 : decode cX9_core 56 = .ok (.iconst 0, 1) := by decide +kernel
theorem dX9_core_57 : decode cX9_core 57 = .ok (.ireturn, 1) := by decide +kernel
theorem dX9_hook_0 : decode cX9_hook 0 = .ok (.aload_n 0, 1) := by decide +kernel
theorem dX9_hook_1 : decode cX9_hook 1 = .ok (.iload_n 1, 1) := by decide +kernel
theorem dX9_hook_2 : decode cX9_hook 2 = .ok (.invokevirtual 287, 3) := by decide +kernel
theorem dX9_hook_5 : decode cX9_hook 5 = .ok (.ifCond .eq 33, 3) := by decide +kernel
theorem dX9_hook_8 : decode cX9_hook 8 = .ok (.iload_n 2, 1) := by decide +kernel
theorem dX9_hook_9 : decode cX9_hook 9 = .ok (.i2l, 1) := by decide +kernel
theorem dX9_hook_10 : decode cX9_hook 10 = .ok (.lconst 0, 1) := by decide +kernel
theorem dX9_hook_11 : decode cX9_hook 11 = .ok (.ldc2_w 301, 3) := by decide +kernel
theorem dX9_hook_14 : decode cX9_hook 14 = .ok (.invokestatic 283, 3) := by decide +kernel
theorem dX9_hook_17 : decode cX9_hook 17 = .ok (.ifCond .eq 21, 3) := by decide +kernel
theorem dX9_hook_20 : decode cX9_hook 20 = .ok (.iload_n 3, 1) := by decide +kernel
theorem dX9_hook_21 : decode cX9_hook 21 = .ok (.i2l, 1) := by decide +kernel
theorem dX9_hook_22 : decode cX9_hook 22 = .ok (.lconst 0, 1) := by decide +kernel
theorem dX9_hook_23 : decode cX9_hook 23 = .ok (.aload_n 0, 1) := by decide +kernel
theorem dX9_hook_24 : decode cX9_hook 24 = .ok (.iload_n 1, 1) := by decide +kernel
theorem dX9_hook_25 : decode cX9_hook 25 = .ok (.iload_n 2, 1) := by decide +kernel
theorem dX9_hook_26 : decode cX9_hook 26 = .ok (.invokevirtual 175, 3) := by decide +kernel
theorem dX9_hook_29 : decode cX9_hook 29 = .ok (.iconst 1, 1) := by decide +kernel
theorem dX9_hook_30 : decode cX9_hook 30 = .ok (.isub, 1) := by decide +kernel
theorem dX9_hook_31 : decode cX9_hook 31 = .ok (.i2l, 1) := by decide +kernel
theorem dX9_hook_32 : decode cX9_hook 32 = .ok (.invokestatic 283, 3) := by decide +kernel
theorem dX9_hook_35 : decode cX9_hook 35 = .ok (.ifCond .ne 5, 3) := by decide +kernel
theorem dX9_hook_38 : decode cX9_hook 38 = .ok (.iconst (-1), 1) := by decide +kernel
theorem dX9_hook_39 : decode cX9_hook 39 = .ok (.ireturn, 1) := by decide +kernel
theorem dX9_hook_40 : decode cX9_hook 40 = .ok (.aload_n 0, 1) := by decide +kernel
theorem dX9_hook_41 : decode cX9_hook 41 = .ok (.iload_n 1, 1) := by decide +kernel
theorem dX9_hook_42 : decode cX9_hook 42 = .ok (.iload_n 2, 1) := by decide +kernel
theorem dX9_hook_43 : decode cX9_hook 43 = .ok (.invokevirtual 175, 3) := by decide +kernel
theorem dX9_hook_46 : decode cX9_hook 46 = .ok (.iload_n 3, 1) := by decide +kernel
theorem dX9_hook_47 : decode cX9_hook 47 = .ok (.isub, 1) := by decide +kernel
theorem dX9_hook_48 : decode cX9_hook 48 = .ok (.istore 4, 2) := by decide +kernel
theorem dX9_hook_50 : decode cX9_hook 50 = .ok (.iload_n 2, 1) := by decide +kernel
theorem dX9_hook_51 : decode cX9_hook 51 = .ok (.iconst 1, 1) := by decide +kernel
theorem dX9_hook_52 : decode cX9_hook 52 = .ok (.iadd, 1) := by decide +kernel
theorem dX9_hook_53 : decode cX9_hook 53 = .ok (.istore 5, 2) := by decide +kernel
theorem dX9_hook_55 : decode cX9_hook 55 = .ok (.iload 5, 2) := by decide +kernel
theorem dX9_hook_57 : decode cX9_hook 57 = .ok (.bipush 6, 2) := by decide +kernel
theorem dX9_hook_59 : decode cX9_hook 59 = .ok (.if_icmp .ge 33, 3) := by decide +kernel
theorem dX9_hook_62 : decode cX9_hook 62 = .ok (.iload 4, 2) := by decide +kernel
theorem dX9_hook_64 : decode cX9_hook 64 = .ok (.aload_n 0, 1) := by decide +kernel
theorem dX9_hook_65 : decode cX9_hook 65 = .ok (.iload_n 1, 1) := by decide +kernel
theorem dX9_hook_66 : decode cX9_hook 66 = .ok (.iload 5, 2) := by decide +kernel
theorem dX9_hook_68 : decode cX9_hook 68 = .ok (.invokevirtual 175, 3) := by decide +kernel
theorem dX9_hook_71 : decode cX9_hook 71 = .ok (.iload_n 3, 1) := by decide +kernel
theorem dX9_hook_72 : decode cX9_hook 72 = .ok (.if_icmp .le 7, 3) := by decide +kernel
theorem dX9_hook_75 : decode cX9_hook 75 = .ok (.iconst 1, 1) := by decide +kernel
theorem dX9_hook_76 : decode cX9_hook 76 = .ok (.goto 4, 3) := by decide +kernel
theorem dX9_hook_79 : decode cX9_hook 79 = .ok (.iconst 0, 1) := by decide +kernel
theorem dX9_hook_80 : decode cX9_hook 80 = .ok (.invokestatic 187, 3) := by decide +kernel
theorem dX9_hook_83 : decode cX9_hook 83 = .ok (.iadd, 1) := by decide +kernel
theorem dX9_hook_84 : decode cX9_hook 84 = .ok (.istore 4, 2) := by decide +kernel
theorem dX9_hook_86 : decode cX9_hook 86 = .ok (.iinc 5 1, 3) := by decide +kernel
theorem dX9_hook_89 : decode cX9_hook 89 = .ok (.goto (-34), 3) := by decide +kernel
theorem dX9_hook_92 : decode cX9_hook 92 = .ok (.iload 4, 2) := by decide +kernel
theorem dX9_hook_94 : decode cX9_hook 94 = .ok (.ireturn, 1) := by decide +kernel
theorem dX9_classOf_0 : decode cX9_classOf 0 = .ok (.aload_n 0, 1) := by decide +kernel
theorem dX9_classOf_1 : decode cX9_classOf 1 = .ok (.iload_n 1, 1) := by decide +kernel
theorem dX9_classOf_2 : decode cX9_classOf 2 = .ok (.invokevirtual 287, 3) := by decide +kernel
theorem dX9_classOf_5 : decode cX9_classOf 5 = .ok (.ifCond .ne 6, 3) := by decide +kernel
theorem dX9_classOf_8 : decode cX9_classOf 8 = .ok (.bipush (-2), 2) := by decide +kernel
theorem dX9_classOf_10 : decode cX9_classOf 10 = .ok (.ireturn, 1) := by decide +kernel
theorem dX9_classOf_11 : decode cX9_classOf 11 = .ok (.iload_n 2, 1) := by decide +kernel
theorem dX9_classOf_12 : decode cX9_classOf 12 = .ok (.tableswitch 79 0 4 #[36, 43, 50, 60, 67], 36) := by decide +kernel
theorem dX9_classOf_48 : decode cX9_classOf 48 = .ok (.aload_n 0, 1) := by decide +kernel
theorem dX9_classOf_49 : decode cX9_classOf 49 = .ok (.getfield 16, 3) := by decide +kernel
theorem dX9_classOf_52 : decode cX9_classOf 52 = .ok (.iload_n 1, 1) := by decide +kernel
theorem dX9_classOf_53 : decode cX9_classOf 53 = .ok (.iaload, 1) := by decide +kernel
theorem dX9_classOf_54 : decode cX9_classOf 54 = .ok (.ireturn, 1) := by decide +kernel
theorem dX9_classOf_55 : decode cX9_classOf 55 = .ok (.aload_n 0, 1) := by decide +kernel
theorem dX9_classOf_56 : decode cX9_classOf 56 = .ok (.getfield 19, 3) := by decide +kernel
theorem dX9_classOf_59 : decode cX9_classOf 59 = .ok (.iload_n 1, 1) := by decide +kernel
theorem dX9_classOf_60 : decode cX9_classOf 60 = .ok (.iaload, 1) := by decide +kernel
theorem dX9_classOf_61 : decode cX9_classOf 61 = .ok (.ireturn, 1) := by decide +kernel
theorem dX9_classOf_62 : decode cX9_classOf 62 = .ok (.aload_n 0, 1) := by decide +kernel
theorem dX9_classOf_63 : decode cX9_classOf 63 = .ok (.getfield 26, 3) := by decide +kernel
theorem dX9_classOf_66 : decode cX9_classOf 66 = .ok (.iload_n 1, 1) := by decide +kernel
theorem dX9_classOf_67 : decode cX9_classOf 67 = .ok (.baload, 1) := by decide +kernel
theorem dX9_classOf_68 : decode cX9_classOf 68 = .ok (.invokestatic 187, 3) := by decide +kernel
theorem dX9_classOf_71 : decode cX9_classOf 71 = .ok (.ireturn, 1) := by decide +kernel
theorem dX9_classOf_72 : decode cX9_classOf 72 = .ok (.aload_n 0, 1) := by decide +kernel
theorem dX9_classOf_73 : decode cX9_classOf 73 = .ok (.getfield 29, 3) := by decide +kernel
theorem dX9_classOf_76 : decode cX9_classOf 76 = .ok (.iload_n 1, 1) := by decide +kernel
theorem dX9_classOf_77 : decode cX9_classOf 77 = .ok (.iaload, 1) := by decide +kernel
theorem dX9_classOf_78 : decode cX9_classOf 78 = .ok (.ireturn, 1) := by decide +kernel
theorem dX9_classOf_79 : decode cX9_classOf 79 = .ok (.aload_n 0, 1) := by decide +kernel
theorem dX9_classOf_80 : decode cX9_classOf 80 = .ok (.getfield 166, 3) := by decide +kernel
theorem dX9_classOf_83 : decode cX9_classOf 83 = .ok (.aload_n 0, 1) := by decide +kernel
theorem dX9_classOf_84 : decode cX9_classOf 84 = .ok (.getfield 16, 3) := by decide +kernel
theorem dX9_classOf_87 : decode cX9_classOf 87 = .ok (.iload_n 1, 1) := by decide +kernel
theorem dX9_classOf_88 : decode cX9_classOf 88 = .ok (.iaload, 1) := by decide +kernel
theorem dX9_classOf_89 : decode cX9_classOf 89 = .ok (.idiv, 1) := by decide +kernel
theorem dX9_classOf_90 : decode cX9_classOf 90 = .ok (.ireturn, 1) := by decide +kernel
theorem dX9_classOf_91 : decode cX9_classOf 91 = .ok (.bipush (-2), 2) := by decide +kernel
theorem dX9_classOf_93 : decode cX9_classOf 93 = .ok (.ireturn, 1) := by decide +kernel
theorem dX9_character_0 : decode cX9_character 0 = .ok (.aload_n 0, 1) := by decide +kernel
theorem dX9_character_1 : decode cX9_character 1 = .ok (.iload_n 1, 1) := by decide +kernel
theorem dX9_character_2 : decode cX9_character 2 = .ok (.invokevirtual 287, 3) := by decide +kernel
theorem dX9_character_5 : decode cX9_character 5 = .ok (.ifCond .eq 25, 3) := by decide +kernel
theorem dX9_character_8 : decode cX9_character 8 = .ok (.aload_n 0, 1) := by decide +kernel
theorem dX9_character_9 : decode cX9_character 9 = .ok (.iload_n 2, 1) := by decide +kernel
theorem dX9_character_10 : decode cX9_character 10 = .ok (.invokevirtual 287, 3) := by decide +kernel
theorem dX9_character_13 : decode cX9_character 13 = .ok (.ifCond .eq 17, 3) := by decide +kernel
theorem dX9_character_16 : decode cX9_character 16 = .ok (.aload_n 0, 1) := by decide +kernel
theorem dX9_character_17 : decode cX9_character 17 = .ok (.getfield 38, 3) := by decide +kernel
theorem dX9_character_20 : decode cX9_character 20 = .ok (.bipush 11, 2) := by decide +kernel
theorem dX9_character_22 : decode cX9_character 22 = .ok (.iload_n 1, 1) := by decide +kernel
theorem dX9_character_23 : decode cX9_character 23 = .ok (.imul, 1) := by decide +kernel
theorem dX9_character_24 : decode cX9_character 24 = .ok (.iload_n 2, 1) := by decide +kernel
theorem dX9_character_25 : decode cX9_character 25 = .ok (.iadd, 1) := by decide +kernel
theorem dX9_character_26 : decode cX9_character 26 = .ok (.iaload, 1) := by decide +kernel
theorem dX9_character_27 : decode cX9_character 27 = .ok (.goto 6, 3) := by decide +kernel
theorem dX9_character_30 : decode cX9_character 30 = .ok (.sipush (-1001), 3) := by decide +kernel
theorem dX9_character_33 : decode cX9_character 33 = .ok (.ireturn, 1) := by decide +kernel
theorem dX9_modular_0 : decode cX9_modular 0 = .ok (.aload_n 0, 1) := by decide +kernel
theorem dX9_modular_1 : decode cX9_modular 1 = .ok (.iload_n 1, 1) := by decide +kernel
theorem dX9_modular_2 : decode cX9_modular 2 = .ok (.invokevirtual 287, 3) := by decide +kernel
theorem dX9_modular_5 : decode cX9_modular 5 = .ok (.ifCond .eq 43, 3) := by decide +kernel
theorem dX9_modular_8 : decode cX9_modular 8 = .ok (.aload_n 0, 1) := by decide +kernel
theorem dX9_modular_9 : decode cX9_modular 9 = .ok (.iload_n 2, 1) := by decide +kernel
theorem dX9_modular_10 : decode cX9_modular 10 = .ok (.invokevirtual 287, 3) := by decide +kernel
theorem dX9_modular_13 : decode cX9_modular 13 = .ok (.ifCond .eq 35, 3) := by decide +kernel
theorem dX9_modular_16 : decode cX9_modular 16 = .ok (.aload_n 0, 1) := by decide +kernel
theorem dX9_modular_17 : decode cX9_modular 17 = .ok (.getfield 22, 3) := by decide +kernel
theorem dX9_modular_20 : decode cX9_modular 20 = .ok (.iload_n 1, 1) := by decide +kernel
theorem dX9_modular_21 : decode cX9_modular 21 = .ok (.baload, 1) := by decide +kernel
theorem dX9_modular_22 : decode cX9_modular 22 = .ok (.ifCond .eq 26, 3) := by decide +kernel
theorem dX9_modular_25 : decode cX9_modular 25 = .ok (.aload_n 0, 1) := by decide +kernel
theorem dX9_modular_26 : decode cX9_modular 26 = .ok (.getfield 26, 3) := by decide +kernel
theorem dX9_modular_29 : decode cX9_modular 29 = .ok (.iload_n 2, 1) := by decide +kernel
theorem dX9_modular_30 : decode cX9_modular 30 = .ok (.baload, 1) := by decide +kernel
theorem dX9_modular_31 : decode cX9_modular 31 = .ok (.ifCond .eq 17, 3) := by decide +kernel
theorem dX9_modular_34 : decode cX9_modular 34 = .ok (.aload_n 0, 1) := by decide +kernel
theorem dX9_modular_35 : decode cX9_modular 35 = .ok (.getfield 96, 3) := by decide +kernel
theorem dX9_modular_38 : decode cX9_modular 38 = .ok (.bipush 11, 2) := by decide +kernel
theorem dX9_modular_40 : decode cX9_modular 40 = .ok (.iload_n 1, 1) := by decide +kernel
theorem dX9_modular_41 : decode cX9_modular 41 = .ok (.imul, 1) := by decide +kernel
theorem dX9_modular_42 : decode cX9_modular 42 = .ok (.iload_n 2, 1) := by decide +kernel
theorem dX9_modular_43 : decode cX9_modular 43 = .ok (.iadd, 1) := by decide +kernel
theorem dX9_modular_44 : decode cX9_modular 44 = .ok (.iaload, 1) := by decide +kernel
theorem dX9_modular_45 : decode cX9_modular 45 = .ok (.goto 6, 3) := by decide +kernel
theorem dX9_modular_48 : decode cX9_modular 48 = .ok (.sipush (-1001), 3) := by decide +kernel
theorem dX9_modular_51 : decode cX9_modular 51 = .ok (.ireturn, 1) := by decide +kernel
theorem dX9_projective_0 : decode cX9_projective 0 = .ok (.aload_n 0, 1) := by decide +kernel
theorem dX9_projective_1 : decode cX9_projective 1 = .ok (.iload_n 1, 1) := by decide +kernel
theorem dX9_projective_2 : decode cX9_projective 2 = .ok (.invokevirtual 287, 3) := by decide +kernel
theorem dX9_projective_5 : decode cX9_projective 5 = .ok (.ifCond .eq 34, 3) := by decide +kernel
theorem dX9_projective_8 : decode cX9_projective 8 = .ok (.aload_n 0, 1) := by decide +kernel
theorem dX9_projective_9 : decode cX9_projective 9 = .ok (.iload_n 2, 1) := by decide +kernel
theorem dX9_projective_10 : decode cX9_projective 10 = .ok (.invokevirtual 287, 3) := by decide +kernel
theorem dX9_projective_13 : decode cX9_projective 13 = .ok (.ifCond .eq 26, 3) := by decide +kernel
theorem dX9_projective_16 : decode cX9_projective 16 = .ok (.aload_n 0, 1) := by decide +kernel
theorem dX9_projective_17 : decode cX9_projective 17 = .ok (.getfield 22, 3) := by decide +kernel
theorem dX9_projective_20 : decode cX9_projective 20 = .ok (.iload_n 1, 1) := by decide +kernel
theorem dX9_projective_21 : decode cX9_projective 21 = .ok (.baload, 1) := by decide +kernel
theorem dX9_projective_22 : decode cX9_projective 22 = .ok (.ifCond .eq 17, 3) := by decide +kernel
theorem dX9_projective_25 : decode cX9_projective 25 = .ok (.aload_n 0, 1) := by decide +kernel
theorem dX9_projective_26 : decode cX9_projective 26 = .ok (.getfield 105, 3) := by decide +kernel
theorem dX9_projective_29 : decode cX9_projective 29 = .ok (.bipush 11, 2) := by decide +kernel
theorem dX9_projective_31 : decode cX9_projective 31 = .ok (.iload_n 1, 1) := by decide +kernel
theorem dX9_projective_32 : decode cX9_projective 32 = .ok (.imul, 1) := by decide +kernel
theorem dX9_projective_33 : decode cX9_projective 33 = .ok (.iload_n 2, 1) := by decide +kernel
theorem dX9_projective_34 : decode cX9_projective 34 = .ok (.iadd, 1) := by decide +kernel
theorem dX9_projective_35 : decode cX9_projective 35 = .ok (.iaload, 1) := by decide +kernel
theorem dX9_projective_36 : decode cX9_projective 36 = .ok (.goto 6, 3) := by decide +kernel
theorem dX9_projective_39 : decode cX9_projective 39 = .ok (.sipush (-1001), 3) := by decide +kernel
theorem dX9_projective_42 : decode cX9_projective 42 = .ok (.ireturn, 1) := by decide +kernel
theorem dX9_isRegularOne_0 : decode cX9_isRegularOne 0 = .ok (.aload_n 0, 1) := by decide +kernel
theorem dX9_isRegularOne_1 : decode cX9_isRegularOne 1 = .ok (.iload_n 1, 1) := by decide +kernel
theorem dX9_isRegularOne_2 : decode cX9_isRegularOne 2 = .ok (.invokevirtual 287, 3) := by decide +kernel
theorem dX9_isRegularOne_5 : decode cX9_isRegularOne 5 = .ok (.ifCond .eq 16, 3) := by decide +kernel
theorem dX9_isRegularOne_8 : decode cX9_isRegularOne 8 = .ok (.aload_n 0, 1) := by decide +kernel
theorem dX9_isRegularOne_9 : decode cX9_isRegularOne 9 = .ok (.getfield 22, 3) := by decide +kernel
theorem dX9_isRegularOne_12 : decode cX9_isRegularOne 12 = .ok (.iload_n 1, 1) := by decide +kernel
theorem dX9_isRegularOne_13 : decode cX9_isRegularOne 13 = .ok (.baload, 1) := by decide +kernel
theorem dX9_isRegularOne_14 : decode cX9_isRegularOne 14 = .ok (.ifCond .eq 7, 3) := by decide +kernel
theorem dX9_isRegularOne_17 : decode cX9_isRegularOne 17 = .ok (.iconst 1, 1) := by decide +kernel
theorem dX9_isRegularOne_18 : decode cX9_isRegularOne 18 = .ok (.goto 4, 3) := by decide +kernel
theorem dX9_isRegularOne_21 : decode cX9_isRegularOne 21 = .ok (.iconst 0, 1) := by decide +kernel
theorem dX9_isRegularOne_22 : decode cX9_isRegularOne 22 = .ok (.ireturn, 1) := by decide +kernel
theorem dX9_decomposition_0 : decode cX9_decomposition 0 = .ok (.aload_n 0, 1) := by decide +kernel
theorem dX9_decomposition_1 : decode cX9_decomposition 1 = .ok (.iload_n 1, 1) := by decide +kernel
theorem dX9_decomposition_2 : decode cX9_decomposition 2 = .ok (.invokevirtual 287, 3) := by decide +kernel
theorem dX9_decomposition_5 : decode cX9_decomposition 5 = .ok (.ifCond .eq 30, 3) := by decide +kernel
theorem dX9_decomposition_8 : decode cX9_decomposition 8 = .ok (.aload_n 0, 1) := by decide +kernel
theorem dX9_decomposition_9 : decode cX9_decomposition 9 = .ok (.iload_n 2, 1) := by decide +kernel
theorem dX9_decomposition_10 : decode cX9_decomposition 10 = .ok (.invokevirtual 303, 3) := by decide +kernel
theorem dX9_decomposition_13 : decode cX9_decomposition 13 = .ok (.ifCond .eq 22, 3) := by decide +kernel
theorem dX9_decomposition_16 : decode cX9_decomposition 16 = .ok (.aload_n 0, 1) := by decide +kernel
theorem dX9_decomposition_17 : decode cX9_decomposition 17 = .ok (.getfield 99, 3) := by decide +kernel
theorem dX9_decomposition_20 : decode cX9_decomposition 20 = .ok (.bipush 11, 2) := by decide +kernel
theorem dX9_decomposition_22 : decode cX9_decomposition 22 = .ok (.iload_n 1, 1) := by decide +kernel
theorem dX9_decomposition_23 : decode cX9_decomposition 23 = .ok (.imul, 1) := by decide +kernel
theorem dX9_decomposition_24 : decode cX9_decomposition 24 = .ok (.aload_n 0, 1) := by decide +kernel
theorem dX9_decomposition_25 : decode cX9_decomposition 25 = .ok (.getfield 32, 3) := by decide +kernel
theorem dX9_decomposition_28 : decode cX9_decomposition 28 = .ok (.iload_n 2, 1) := by decide +kernel
theorem dX9_decomposition_29 : decode cX9_decomposition 29 = .ok (.iaload, 1) := by decide +kernel
theorem dX9_decomposition_30 : decode cX9_decomposition 30 = .ok (.iadd, 1) := by decide +kernel
theorem dX9_decomposition_31 : decode cX9_decomposition 31 = .ok (.iaload, 1) := by decide +kernel
theorem dX9_decomposition_32 : decode cX9_decomposition 32 = .ok (.goto 4, 3) := by decide +kernel
theorem dX9_decomposition_35 : decode cX9_decomposition 35 = .ok (.iconst (-1), 1) := by decide +kernel
theorem dX9_decomposition_36 : decode cX9_decomposition 36 = .ok (.ireturn, 1) := by decide +kernel
theorem dX9_cartanOf_0 : decode cX9_cartanOf 0 = .ok (.iconst 0, 1) := by decide +kernel
theorem dX9_cartanOf_1 : decode cX9_cartanOf 1 = .ok (.istore_n 3, 1) := by decide +kernel
theorem dX9_cartanOf_2 : decode cX9_cartanOf 2 = .ok (.iconst 0, 1) := by decide +kernel
theorem dX9_cartanOf_3 : decode cX9_cartanOf 3 = .ok (.istore 4, 2) := by decide +kernel
theorem dX9_cartanOf_5 : decode cX9_cartanOf 5 = .ok (.iload 4, 2) := by decide +kernel
theorem dX9_cartanOf_7 : decode cX9_cartanOf 7 = .ok (.aload_n 0, 1) := by decide +kernel
theorem dX9_cartanOf_8 : decode cX9_cartanOf 8 = .ok (.getfield 153, 3) := by decide +kernel
theorem dX9_cartanOf_11 : decode cX9_cartanOf 11 = .ok (.if_icmp .ge 47, 3) := by decide +kernel
theorem dX9_cartanOf_14 : decode cX9_cartanOf 14 = .ok (.iload_n 3, 1) := by decide +kernel
theorem dX9_cartanOf_15 : decode cX9_cartanOf 15 = .ok (.aload_n 0, 1) := by decide +kernel
theorem dX9_cartanOf_16 : decode cX9_cartanOf 16 = .ok (.getfield 99, 3) := by decide +kernel
theorem dX9_cartanOf_19 : decode cX9_cartanOf 19 = .ok (.bipush 11, 2) := by decide +kernel
theorem dX9_cartanOf_21 : decode cX9_cartanOf 21 = .ok (.iload 4, 2) := by decide +kernel
theorem dX9_cartanOf_23 : decode cX9_cartanOf 23 = .ok (.imul, 1) := by decide +kernel
theorem dX9_cartanOf_24 : decode cX9_cartanOf 24 = .ok (.aload_n 0, 1) := by decide +kernel
theorem dX9_cartanOf_25 : decode cX9_cartanOf 25 = .ok (.getfield 32, 3) := by decide +kernel
theorem dX9_cartanOf_28 : decode cX9_cartanOf 28 = .ok (.iload_n 1, 1) := by decide +kernel
theorem dX9_cartanOf_29 : decode cX9_cartanOf 29 = .ok (.iaload, 1) := by decide +kernel
theorem dX9_cartanOf_30 : decode cX9_cartanOf 30 = .ok (.iadd, 1) := by decide +kernel
theorem dX9_cartanOf_31 : decode cX9_cartanOf 31 = .ok (.iaload, 1) := by decide +kernel
theorem dX9_cartanOf_32 : decode cX9_cartanOf 32 = .ok (.aload_n 0, 1) := by decide +kernel
theorem dX9_cartanOf_33 : decode cX9_cartanOf 33 = .ok (.getfield 99, 3) := by decide +kernel
theorem dX9_cartanOf_36 : decode cX9_cartanOf 36 = .ok (.bipush 11, 2) := by decide +kernel
theorem dX9_cartanOf_38 : decode cX9_cartanOf 38 = .ok (.iload 4, 2) := by decide +kernel
theorem dX9_cartanOf_40 : decode cX9_cartanOf 40 = .ok (.imul, 1) := by decide +kernel
theorem dX9_cartanOf_41 : decode cX9_cartanOf 41 = .ok (.aload_n 0, 1) := by decide +kernel
theorem dX9_cartanOf_42 : decode cX9_cartanOf 42 = .ok (.getfield 32, 3) := by decide +kernel
theorem dX9_cartanOf_45 : decode cX9_cartanOf 45 = .ok (.iload_n 2, 1) := by decide +kernel
theorem dX9_cartanOf_46 : decode cX9_cartanOf 46 = .ok (.iaload, 1) := by decide +kernel
theorem dX9_cartanOf_47 : decode cX9_cartanOf 47 = .ok (.iadd, 1) := by decide +kernel
theorem dX9_cartanOf_48 : decode cX9_cartanOf 48 = .ok (.iaload, 1) := by decide +kernel
theorem dX9_cartanOf_49 : decode cX9_cartanOf 49 = .ok (.imul, 1) := by decide +kernel
theorem dX9_cartanOf_50 : decode cX9_cartanOf 50 = .ok (.iadd, 1) := by decide +kernel
theorem dX9_cartanOf_51 : decode cX9_cartanOf 51 = .ok (.istore_n 3, 1) := by decide +kernel
theorem dX9_cartanOf_52 : decode cX9_cartanOf 52 = .ok (.iinc 4 1, 3) := by decide +kernel
theorem dX9_cartanOf_55 : decode cX9_cartanOf 55 = .ok (.goto (-50), 3) := by decide +kernel
theorem dX9_cartanOf_58 : decode cX9_cartanOf 58 = .ok (.iload_n 3, 1) := by decide +kernel
theorem dX9_cartanOf_59 : decode cX9_cartanOf 59 = .ok (.ireturn, 1) := by decide +kernel
theorem dX9_cartan_0 : decode cX9_cartan 0 = .ok (.aload_n 0, 1) := by decide +kernel
theorem dX9_cartan_1 : decode cX9_cartan 1 = .ok (.iload_n 1, 1) := by decide +kernel
theorem dX9_cartan_2 : decode cX9_cartan 2 = .ok (.invokevirtual 303, 3) := by decide +kernel
theorem dX9_cartan_5 : decode cX9_cartan 5 = .ok (.ifCond .eq 20, 3) := by decide +kernel
theorem dX9_cartan_8 : decode cX9_cartan 8 = .ok (.aload_n 0, 1) := by decide +kernel
theorem dX9_cartan_9 : decode cX9_cartan 9 = .ok (.iload_n 2, 1) := by decide +kernel
theorem dX9_cartan_10 : decode cX9_cartan 10 = .ok (.invokevirtual 303, 3) := by decide +kernel
theorem dX9_cartan_13 : decode cX9_cartan 13 = .ok (.ifCond .eq 12, 3) := by decide +kernel
theorem dX9_cartan_16 : decode cX9_cartan 16 = .ok (.aload_n 0, 1) := by decide +kernel
theorem dX9_cartan_17 : decode cX9_cartan 17 = .ok (.iload_n 1, 1) := by decide +kernel
theorem dX9_cartan_18 : decode cX9_cartan 18 = .ok (.iload_n 2, 1) := by decide +kernel
theorem dX9_cartan_19 : decode cX9_cartan 19 = .ok (.invokevirtual 306, 3) := by decide +kernel
theorem dX9_cartan_22 : decode cX9_cartan 22 = .ok (.goto 4, 3) := by decide +kernel
theorem dX9_cartan_25 : decode cX9_cartan 25 = .ok (.iconst (-1), 1) := by decide +kernel
theorem dX9_cartan_26 : decode cX9_cartan 26 = .ok (.ireturn, 1) := by decide +kernel
theorem dX9_tableau_0 : decode cX9_tableau 0 = .ok (.aload_n 0, 1) := by decide +kernel
theorem dX9_tableau_1 : decode cX9_tableau 1 = .ok (.iload_n 1, 1) := by decide +kernel
theorem dX9_tableau_2 : decode cX9_tableau 2 = .ok (.invokevirtual 287, 3) := by decide +kernel
theorem dX9_tableau_5 : decode cX9_tableau 5 = .ok (.ifCond .ne 5, 3) := by decide +kernel
theorem dX9_tableau_8 : decode cX9_tableau 8 = .ok (.iconst (-1), 1) := by decide +kernel
theorem dX9_tableau_9 : decode cX9_tableau 9 = .ok (.ireturn, 1) := by decide +kernel
theorem dX9_tableau_10 : decode cX9_tableau 10 = .ok (.iload_n 3, 1) := by decide +kernel
theorem dX9_tableau_11 : decode cX9_tableau 11 = .ok (.iconst (-1), 1) := by decide +kernel
theorem dX9_tableau_12 : decode cX9_tableau 12 = .ok (.if_icmp .ne 10, 3) := by decide +kernel
theorem dX9_tableau_15 : decode cX9_tableau 15 = .ok (.aload_n 0, 1) := by decide +kernel
theorem dX9_tableau_16 : decode cX9_tableau 16 = .ok (.getfield 56, 3) := by decide +kernel
theorem dX9_tableau_19 : decode cX9_tableau 19 = .ok (.iload_n 1, 1) := by decide +kernel
theorem dX9_tableau_20 : decode cX9_tableau 20 = .ok (.iaload, 1) := by decide +kernel
theorem dX9_tableau_21 : decode cX9_tableau 21 = .ok (.ireturn, 1) := by decide +kernel
theorem dX9_tableau_22 : decode cX9_tableau 22 = .ok (.iload_n 2, 1) := by decide +kernel
theorem dX9_tableau_23 : decode cX9_tableau 23 = .ok (.i2l, 1) := by decide +kernel
theorem dX9_tableau_24 : decode cX9_tableau 24 = .ok (.lconst 0, 1) := by decide +kernel
theorem dX9_tableau_25 : decode cX9_tableau 25 = .ok (.aload_n 0, 1) := by decide +kernel
theorem dX9_tableau_26 : decode cX9_tableau 26 = .ok (.getfield 56, 3) := by decide +kernel
theorem dX9_tableau_29 : decode cX9_tableau 29 = .ok (.iload_n 1, 1) := by decide +kernel
theorem dX9_tableau_30 : decode cX9_tableau 30 = .ok (.iaload, 1) := by decide +kernel
theorem dX9_tableau_31 : decode cX9_tableau 31 = .ok (.iconst 1, 1) := by decide +kernel
theorem dX9_tableau_32 : decode cX9_tableau 32 = .ok (.isub, 1) := by decide +kernel
theorem dX9_tableau_33 : decode cX9_tableau 33 = .ok (.i2l, 1) := by decide +kernel
theorem dX9_tableau_34 : decode cX9_tableau 34 = .ok (.invokestatic 283, 3) := by decide +kernel
theorem dX9_tableau_37 : decode cX9_tableau 37 = .ok (.ifCond .eq 34, 3) := by decide +kernel
theorem dX9_tableau_40 : decode cX9_tableau 40 = .ok (.iload_n 3, 1) := by decide +kernel
theorem dX9_tableau_41 : decode cX9_tableau 41 = .ok (.i2l, 1) := by decide +kernel
theorem dX9_tableau_42 : decode cX9_tableau 42 = .ok (.lconst 0, 1) := by decide +kernel
theorem dX9_tableau_43 : decode cX9_tableau 43 = .ok (.ldc2_w 301, 3) := by decide +kernel
theorem dX9_tableau_46 : decode cX9_tableau 46 = .ok (.invokestatic 283, 3) := by decide +kernel
theorem dX9_tableau_49 : decode cX9_tableau 49 = .ok (.ifCond .eq 22, 3) := by decide +kernel
theorem dX9_tableau_52 : decode cX9_tableau 52 = .ok (.iload 4, 2) := by decide +kernel
theorem dX9_tableau_54 : decode cX9_tableau 54 = .ok (.i2l, 1) := by decide +kernel
theorem dX9_tableau_55 : decode cX9_tableau 55 = .ok (.lconst 0, 1) := by decide +kernel
theorem dX9_tableau_56 : decode cX9_tableau 56 = .ok (.aload_n 0, 1) := by decide +kernel
theorem dX9_tableau_57 : decode cX9_tableau 57 = .ok (.iload_n 1, 1) := by decide +kernel
theorem dX9_tableau_58 : decode cX9_tableau 58 = .ok (.iload_n 3, 1) := by decide +kernel
theorem dX9_tableau_59 : decode cX9_tableau 59 = .ok (.invokevirtual 175, 3) := by decide +kernel
theorem dX9_tableau_62 : decode cX9_tableau 62 = .ok (.iconst 1, 1) := by decide +kernel
theorem dX9_tableau_63 : decode cX9_tableau 63 = .ok (.isub, 1) := by decide +kernel
theorem dX9_tableau_64 : decode cX9_tableau 64 = .ok (.i2l, 1) := by decide +kernel
theorem dX9_tableau_65 : decode cX9_tableau 65 = .ok (.invokestatic 283, 3) := by decide +kernel
theorem dX9_tableau_68 : decode cX9_tableau 68 = .ok (.ifCond .ne 5, 3) := by decide +kernel
theorem dX9_tableau_71 : decode cX9_tableau 71 = .ok (.iconst (-1), 1) := by decide +kernel
theorem dX9_tableau_72 : decode cX9_tableau 72 = .ok (.ireturn, 1) := by decide +kernel
theorem dX9_tableau_73 : decode cX9_tableau 73 = .ok (.aload_n 0, 1) := by decide +kernel
theorem dX9_tableau_74 : decode cX9_tableau 74 = .ok (.iload_n 1, 1) := by decide +kernel
theorem dX9_tableau_75 : decode cX9_tableau 75 = .ok (.putfield 205, 3) := by decide +kernel
theorem dX9_tableau_78 : decode cX9_tableau 78 = .ok (.aload_n 0, 1) := by decide +kernel
theorem dX9_tableau_79 : decode cX9_tableau 79 = .ok (.getfield 59, 3) := by decide +kernel
theorem dX9_tableau_82 : decode cX9_tableau 82 = .ok (.bipush 6, 2) := by decide +kernel
theorem dX9_tableau_84 : decode cX9_tableau 84 = .ok (.aload_n 0, 1) := by decide +kernel
theorem dX9_tableau_85 : decode cX9_tableau 85 = .ok (.getfield 53, 3) := by decide +kernel
theorem dX9_tableau_88 : decode cX9_tableau 88 = .ok (.iload_n 1, 1) := by decide +kernel
theorem dX9_tableau_89 : decode cX9_tableau 89 = .ok (.iaload, 1) := by decide +kernel
theorem dX9_tableau_90 : decode cX9_tableau 90 = .ok (.iload_n 2, 1) := by decide +kernel
theorem dX9_tableau_91 : decode cX9_tableau 91 = .ok (.iadd, 1) := by decide +kernel
theorem dX9_tableau_92 : decode cX9_tableau 92 = .ok (.imul, 1) := by decide +kernel
theorem dX9_tableau_93 : decode cX9_tableau 93 = .ok (.aload_n 0, 1) := by decide +kernel
theorem dX9_tableau_94 : decode cX9_tableau 94 = .ok (.iload_n 3, 1) := by decide +kernel
theorem dX9_tableau_95 : decode cX9_tableau 95 = .ok (.iload 4, 2) := by decide +kernel
theorem dX9_tableau_97 : decode cX9_tableau 97 = .ok (.invokevirtual 214, 3) := by decide +kernel
theorem dX9_tableau_100 : decode cX9_tableau 100 = .ok (.iadd, 1) := by decide +kernel
theorem dX9_tableau_101 : decode cX9_tableau 101 = .ok (.iaload, 1) := by decide +kernel
theorem dX9_tableau_102 : decode cX9_tableau 102 = .ok (.ireturn, 1) := by decide +kernel
theorem dX9_gram_0 : decode cX9_gram 0 = .ok (.aload_n 0, 1) := by decide +kernel
theorem dX9_gram_1 : decode cX9_gram 1 = .ok (.iload_n 1, 1) := by decide +kernel
theorem dX9_gram_2 : decode cX9_gram 2 = .ok (.invokevirtual 287, 3) := by decide +kernel
theorem dX9_gram_5 : decode cX9_gram 5 = .ok (.ifCond .eq 59, 3) := by decide +kernel
theorem dX9_gram_8 : decode cX9_gram 8 = .ok (.iload_n 2, 1) := by decide +kernel
theorem dX9_gram_9 : decode cX9_gram 9 = .ok (.i2l, 1) := by decide +kernel
theorem dX9_gram_10 : decode cX9_gram 10 = .ok (.lconst 0, 1) := by decide +kernel
theorem dX9_gram_11 : decode cX9_gram 11 = .ok (.aload_n 0, 1) := by decide +kernel
theorem dX9_gram_12 : decode cX9_gram 12 = .ok (.getfield 56, 3) := by decide +kernel
theorem dX9_gram_15 : decode cX9_gram 15 = .ok (.iload_n 1, 1) := by decide +kernel
theorem dX9_gram_16 : decode cX9_gram 16 = .ok (.iaload, 1) := by decide +kernel
theorem dX9_gram_17 : decode cX9_gram 17 = .ok (.iconst 1, 1) := by decide +kernel
theorem dX9_gram_18 : decode cX9_gram 18 = .ok (.isub, 1) := by decide +kernel
theorem dX9_gram_19 : decode cX9_gram 19 = .ok (.i2l, 1) := by decide +kernel
theorem dX9_gram_20 : decode cX9_gram 20 = .ok (.invokestatic 283, 3) := by decide +kernel
theorem dX9_gram_23 : decode cX9_gram 23 = .ok (.ifCond .eq 41, 3) := by decide +kernel
theorem dX9_gram_26 : decode cX9_gram 26 = .ok (.iload_n 3, 1) := by decide +kernel
theorem dX9_gram_27 : decode cX9_gram 27 = .ok (.i2l, 1) := by decide +kernel
theorem dX9_gram_28 : decode cX9_gram 28 = .ok (.lconst 0, 1) := by decide +kernel
theorem dX9_gram_29 : decode cX9_gram 29 = .ok (.aload_n 0, 1) := by decide +kernel
theorem dX9_gram_30 : decode cX9_gram 30 = .ok (.getfield 56, 3) := by decide +kernel
theorem dX9_gram_33 : decode cX9_gram 33 = .ok (.iload_n 1, 1) := by decide +kernel
theorem dX9_gram_34 : decode cX9_gram 34 = .ok (.iaload, 1) := by decide +kernel
theorem dX9_gram_35 : decode cX9_gram 35 = .ok (.iconst 1, 1) := by decide +kernel
theorem dX9_gram_36 : decode cX9_gram 36 = .ok (.isub, 1) := by decide +kernel
theorem dX9_gram_37 : decode cX9_gram 37 = .ok (.i2l, 1) := by decide +kernel
theorem dX9_gram_38 : decode cX9_gram 38 = .ok (.invokestatic 283, 3) := by decide +kernel
theorem dX9_gram_41 : decode cX9_gram 41 = .ok (.ifCond .eq 23, 3) := by decide +kernel
theorem dX9_gram_44 : decode cX9_gram 44 = .ok (.aload_n 0, 1) := by decide +kernel
theorem dX9_gram_45 : decode cX9_gram 45 = .ok (.getfield 90, 3) := by decide +kernel
theorem dX9_gram_48 : decode cX9_gram 48 = .ok (.sipush 256, 3) := by decide +kernel
theorem dX9_gram_51 : decode cX9_gram 51 = .ok (.iload_n 1, 1) := by decide +kernel
theorem dX9_gram_52 : decode cX9_gram 52 = .ok (.imul, 1) := by decide +kernel
theorem dX9_gram_53 : decode cX9_gram 53 = .ok (.bipush 16, 2) := by decide +kernel
theorem dX9_gram_55 : decode cX9_gram 55 = .ok (.iload_n 2, 1) := by decide +kernel
theorem dX9_gram_56 : decode cX9_gram 56 = .ok (.imul, 1) := by decide +kernel
theorem dX9_gram_57 : decode cX9_gram 57 = .ok (.iadd, 1) := by decide +kernel
theorem dX9_gram_58 : decode cX9_gram 58 = .ok (.iload_n 3, 1) := by decide +kernel
theorem dX9_gram_59 : decode cX9_gram 59 = .ok (.iadd, 1) := by decide +kernel
theorem dX9_gram_60 : decode cX9_gram 60 = .ok (.iaload, 1) := by decide +kernel
theorem dX9_gram_61 : decode cX9_gram 61 = .ok (.goto 6, 3) := by decide +kernel
theorem dX9_gram_64 : decode cX9_gram 64 = .ok (.sipush (-1001), 3) := by decide +kernel
theorem dX9_gram_67 : decode cX9_gram 67 = .ok (.ireturn, 1) := by decide +kernel
theorem dX9_membersOf_0 : decode cX9_membersOf 0 = .ok (.iconst 0, 1) := by decide +kernel
theorem dX9_membersOf_1 : decode cX9_membersOf 1 = .ok (.istore_n 2, 1) := by decide +kernel
theorem dX9_membersOf_2 : decode cX9_membersOf 2 = .ok (.iconst 0, 1) := by decide +kernel
theorem dX9_membersOf_3 : decode cX9_membersOf 3 = .ok (.istore_n 3, 1) := by decide +kernel
theorem dX9_membersOf_4 : decode cX9_membersOf 4 = .ok (.iload_n 3, 1) := by decide +kernel
theorem dX9_membersOf_5 : decode cX9_membersOf 5 = .ok (.aload_n 0, 1) := by decide +kernel
theorem dX9_membersOf_6 : decode cX9_membersOf 6 = .ok (.getfield 153, 3) := by decide +kernel
theorem dX9_membersOf_9 : decode cX9_membersOf 9 = .ok (.if_icmp .ge 41, 3) := by decide +kernel
theorem dX9_membersOf_12 : decode cX9_membersOf 12 = .ok (.aload_n 0, 1) := by decide +kernel
theorem dX9_membersOf_13 : decode cX9_membersOf 13 = .ok (.getfield 47, 3) := by decide +kernel
theorem dX9_membersOf_16 : decode cX9_membersOf 16 = .ok (.iload_n 3, 1) := by decide +kernel
theorem dX9_membersOf_17 : decode cX9_membersOf 17 = .ok (.iaload, 1) := by decide +kernel
theorem dX9_membersOf_18 : decode cX9_membersOf 18 = .ok (.iload_n 1, 1) := by decide +kernel
theorem dX9_membersOf_19 : decode cX9_membersOf 19 = .ok (.if_icmp .ne 25, 3) := by decide +kernel
theorem dX9_membersOf_22 : decode cX9_membersOf 22 = .ok (.aload_n 0, 1) := by decide +kernel
theorem dX9_membersOf_23 : decode cX9_membersOf 23 = .ok (.getfield 22, 3) := by decide +kernel
theorem dX9_membersOf_26 : decode cX9_membersOf 26 = .ok (.iload_n 3, 1) := by decide +kernel
theorem dX9_membersOf_27 : decode cX9_membersOf 27 = .ok (.baload, 1) := by decide +kernel
theorem dX9_membersOf_28 : decode cX9_membersOf 28 = .ok (.ifCond .ne 6, 3) := by decide +kernel
theorem dX9_membersOf_31 : decode cX9_membersOf 31 = .ok (.goto 13, 3) := by decide +kernel
theorem dX9_membersOf_34 : decode cX9_membersOf 34 = .ok (.aload_n 0, 1) := by decide +kernel
theorem dX9_membersOf_35 : decode cX9_membersOf 35 = .ok (.getfield 112, 3) := by decide +kernel
theorem dX9_membersOf_38 : decode cX9_membersOf 38 = .ok (.iload_n 2, 1) := by decide +kernel
theorem dX9_membersOf_39 : decode cX9_membersOf 39 = .ok (.iload_n 3, 1) := by decide +kernel
theorem dX9_membersOf_40 : decode cX9_membersOf 40 = .ok (.iastore, 1) := by decide +kernel
theorem dX9_membersOf_41 : decode cX9_membersOf 41 = .ok (.iinc 2 1, 3) := by decide +kernel
theorem dX9_membersOf_44 : decode cX9_membersOf 44 = .ok (.iinc 3 1, 3) := by decide +kernel
theorem dX9_membersOf_47 : decode cX9_membersOf 47 = .ok (.goto (-43), 3) := by decide +kernel
theorem dX9_membersOf_50 : decode cX9_membersOf 50 = .ok (.iload_n 2, 1) := by decide +kernel
theorem dX9_membersOf_51 : decode cX9_membersOf 51 = .ok (.ireturn, 1) := by decide +kernel
theorem dX9_determinant_0 : decode cX9_determinant 0 = .ok (.lconst 1, 1) := by decide +kernel
theorem dX9_determinant_1 : decode cX9_determinant 1 = .ok (.lstore_n 2, 1) := by decide +kernel
theorem dX9_determinant_2 : decode cX9_determinant 2 = .ok (.iconst 1, 1) := by decide +kernel
theorem dX9_determinant_3 : decode cX9_determinant 3 = .ok (.istore 4, 2) := by decide +kernel
theorem dX9_determinant_5 : decode cX9_determinant 5 = .ok (.iconst 0, 1) := by decide +kernel
theorem dX9_determinant_6 : decode cX9_determinant 6 = .ok (.istore 5, 2) := by decide +kernel
theorem dX9_determinant_8 : decode cX9_determinant 8 = .ok (.iload 5, 2) := by decide +kernel
theorem dX9_determinant_10 : decode cX9_determinant 10 = .ok (.iload_n 1, 1) := by decide +kernel
theorem dX9_determinant_11 : decode cX9_determinant 11 = .ok (.iconst 1, 1) := by decide +kernel
theorem dX9_determinant_12 : decode cX9_determinant 12 = .ok (.isub, 1) := by decide +kernel
theorem dX9_determinant_13 : decode cX9_determinant 13 = .ok (.if_icmp .ge 261, 3) := by decide +kernel
theorem dX9_determinant_16 : decode cX9_determinant 16 = .ok (.iload 5, 2) := by decide +kernel
theorem dX9_determinant_18 : decode cX9_determinant 18 = .ok (.istore 6, 2) := by decide +kernel
theorem dX9_determinant_20 : decode cX9_determinant 20 = .ok (.iload 6, 2) := by decide +kernel
theorem dX9_determinant_22 : decode cX9_determinant 22 = .ok (.iload_n 1, 1) := by decide +kernel
theorem dX9_determinant_23 : decode cX9_determinant 23 = .ok (.if_icmp .ge 27, 3) := by decide +kernel
theorem dX9_determinant_26 : decode cX9_determinant 26 = .ok (.aload_n 0, 1) := by decide +kernel
theorem dX9_determinant_27 : decode cX9_determinant 27 = .ok (.getfield 108, 3) := by decide +kernel
theorem dX9_determinant_30 : decode cX9_determinant 30 = .ok (.bipush 11, 2) := by decide +kernel
theorem dX9_determinant_32 : decode cX9_determinant 32 = .ok (.iload 6, 2) := by decide +kernel
theorem dX9_determinant_34 : decode cX9_determinant 34 = .ok (.imul, 1) := by decide +kernel
theorem dX9_determinant_35 : decode cX9_determinant 35 = .ok (.iload 5, 2) := by decide +kernel
theorem dX9_determinant_37 : decode cX9_determinant 37 = .ok (.iadd, 1) := by decide +kernel
theorem dX9_determinant_38 : decode cX9_determinant 38 = .ok (.laload, 1) := by decide +kernel
theorem dX9_determinant_39 : decode cX9_determinant 39 = .ok (.lconst 0, 1) := by decide +kernel
theorem dX9_determinant_40 : decode cX9_determinant 40 = .ok (.lcmp, 1) := by decide +kernel
theorem dX9_determinant_41 : decode cX9_determinant 41 = .ok (.ifCond .ne 9, 3) := by decide +kernel
theorem dX9_determinant_44 : decode cX9_determinant 44 = .ok (.iinc 6 1, 3) := by decide +kernel
theorem dX9_determinant_47 : decode cX9_determinant 47 = .ok (.goto (-27), 3) := by decide +kernel
theorem dX9_determinant_50 : decode cX9_determinant 50 = .ok (.iload 6, 2) := by decide +kernel
theorem dX9_determinant_52 : decode cX9_determinant 52 = .ok (.iload_n 1, 1) := by decide +kernel
theorem dX9_determinant_53 : decode cX9_determinant 53 = .ok (.if_icmp .ne 5, 3) := by decide +kernel
theorem dX9_determinant_56 : decode cX9_determinant 56 = .ok (.lconst 0, 1) := by decide +kernel
theorem dX9_determinant_57 : decode cX9_determinant 57 = .ok (.lreturn, 1) := by decide +kernel
theorem dX9_determinant_58 : decode cX9_determinant 58 = .ok (.iconst 0, 1) := by decide +kernel
theorem dX9_determinant_59 : decode cX9_determinant 59 = .ok (.istore 7, 2) := by decide +kernel
theorem dX9_determinant_61 : decode cX9_determinant 61 = .ok (.iload 7, 2) := by decide +kernel
theorem dX9_determinant_63 : decode cX9_determinant 63 = .ok (.iload_n 1, 1) := by decide +kernel
theorem dX9_determinant_64 : decode cX9_determinant 64 = .ok (.if_icmp .ge 72, 3) := by decide +kernel
theorem dX9_determinant_67 : decode cX9_determinant 67 = .ok (.iload 6, 2) := by decide +kernel
theorem dX9_determinant_69 : decode cX9_determinant 69 = .ok (.iload 5, 2) := by decide +kernel
theorem dX9_determinant_71 : decode cX9_determinant 71 = .ok (.if_icmp .eq 65, 3) := by decide +kernel
theorem dX9_determinant_74 : decode cX9_determinant 74 = .ok (.aload_n 0, 1) := by decide +kernel
theorem dX9_determinant_75 : decode cX9_determinant 75 = .ok (.getfield 108, 3) := by decide +kernel
theorem dX9_determinant_78 : decode cX9_determinant 78 = .ok (.bipush 11, 2) := by decide +kernel
theorem dX9_determinant_80 : decode cX9_determinant 80 = .ok (.iload 6, 2) := by decide +kernel
theorem dX9_determinant_82 : decode cX9_determinant 82 = .ok (.imul, 1) := by decide +kernel
theorem dX9_determinant_83 : decode cX9_determinant 83 = .ok (.iload 7, 2) := by decide +kernel
theorem dX9_determinant_85 : decode cX9_determinant 85 = .ok (.iadd, 1) := by decide +kernel
theorem dX9_determinant_86 : decode cX9_determinant 86 = .ok (.laload, 1) := by decide +kernel
theorem dX9_determinant_87 : decode cX9_determinant 87 = .ok (.lstore 8, 2) := by decide +kernel
theorem dX9_determinant_89 : decode cX9_determinant 89 = .ok (.aload_n 0, 1) := by decide +kernel
theorem dX9_determinant_90 : decode cX9_determinant 90 = .ok (.getfield 108, 3) := by decide +kernel
theorem dX9_determinant_93 : decode cX9_determinant 93 = .ok (.bipush 11, 2) := by decide +kernel
theorem dX9_determinant_95 : decode cX9_determinant 95 = .ok (.iload 6, 2) := by decide +kernel
theorem dX9_determinant_97 : decode cX9_determinant 97 = .ok (.imul, 1) := by decide +kernel
theorem dX9_determinant_98 : decode cX9_determinant 98 = .ok (.iload 7, 2) := by decide +kernel
theorem dX9_determinant_100 : decode cX9_determinant 100 = .ok (.iadd, 1) := by decide +kernel
theorem dX9_determinant_101 : decode cX9_determinant 101 = .ok (.aload_n 0, 1) := by decide +kernel
theorem dX9_determinant_102 : decode cX9_determinant 102 = .ok (.getfield 108, 3) := by decide +kernel
theorem dX9_determinant_105 : decode cX9_determinant 105 = .ok (.bipush 11, 2) := by decide +kernel
theorem dX9_determinant_107 : decode cX9_determinant 107 = .ok (.iload 5, 2) := by decide +kernel
theorem dX9_determinant_109 : decode cX9_determinant 109 = .ok (.imul, 1) := by decide +kernel
theorem dX9_determinant_110 : decode cX9_determinant 110 = .ok (.iload 7, 2) := by decide +kernel
theorem dX9_determinant_112 : decode cX9_determinant 112 = .ok (.iadd, 1) := by decide +kernel
theorem dX9_determinant_113 : decode cX9_determinant 113 = .ok (.laload, 1) := by decide +kernel
theorem dX9_determinant_114 : decode cX9_determinant 114 = .ok (.lastore, 1) := by decide +kernel
theorem dX9_determinant_115 : decode cX9_determinant 115 = .ok (.aload_n 0, 1) := by decide +kernel
theorem dX9_determinant_116 : decode cX9_determinant 116 = .ok (.getfield 108, 3) := by decide +kernel
theorem dX9_determinant_119 : decode cX9_determinant 119 = .ok (.bipush 11, 2) := by decide +kernel
theorem dX9_determinant_121 : decode cX9_determinant 121 = .ok (.iload 5, 2) := by decide +kernel
theorem dX9_determinant_123 : decode cX9_determinant 123 = .ok (.imul, 1) := by decide +kernel
theorem dX9_determinant_124 : decode cX9_determinant 124 = .ok (.iload 7, 2) := by decide +kernel
theorem dX9_determinant_126 : decode cX9_determinant 126 = .ok (.iadd, 1) := by decide +kernel
theorem dX9_determinant_127 : decode cX9_determinant 127 = .ok (.lload 8, 2) := by decide +kernel
theorem dX9_determinant_129 : decode cX9_determinant 129 = .ok (.lastore, 1) := by decide +kernel
theorem dX9_determinant_130 : decode cX9_determinant 130 = .ok (.iinc 7 1, 3) := by decide +kernel
theorem dX9_determinant_133 : decode cX9_determinant 133 = .ok (.goto (-72), 3) := by decide +kernel
theorem dX9_determinant_136 : decode cX9_determinant 136 = .ok (.iload 6, 2) := by decide +kernel
theorem dX9_determinant_138 : decode cX9_determinant 138 = .ok (.iload 5, 2) := by decide +kernel
theorem dX9_determinant_140 : decode cX9_determinant 140 = .ok (.if_icmp .eq 8, 3) := by decide +kernel
theorem dX9_determinant_143 : decode cX9_determinant 143 = .ok (.iload 4, 2) := by decide +kernel
theorem dX9_determinant_145 : decode cX9_determinant 145 = .ok (.ineg, 1) := by decide +kernel
theorem dX9_determinant_146 : decode cX9_determinant 146 = .ok (.istore 4, 2) := by decide +kernel
theorem dX9_determinant_148 : decode cX9_determinant 148 = .ok (.iload 5, 2) := by decide +kernel
theorem dX9_determinant_150 : decode cX9_determinant 150 = .ok (.iconst 1, 1) := by decide +kernel
theorem dX9_determinant_151 : decode cX9_determinant 151 = .ok (.iadd, 1) := by decide +kernel
theorem dX9_determinant_152 : decode cX9_determinant 152 = .ok (.istore 7, 2) := by decide +kernel
theorem dX9_determinant_154 : decode cX9_determinant 154 = .ok (.iload 7, 2) := by decide +kernel
theorem dX9_determinant_156 : decode cX9_determinant 156 = .ok (.iload_n 1, 1) := by decide +kernel
theorem dX9_determinant_157 : decode cX9_determinant 157 = .ok (.if_icmp .ge 97, 3) := by decide +kernel
theorem dX9_determinant_160 : decode cX9_determinant 160 = .ok (.iload 5, 2) := by decide +kernel
theorem dX9_determinant_162 : decode cX9_determinant 162 = .ok (.iconst 1, 1) := by decide +kernel
theorem dX9_determinant_163 : decode cX9_determinant 163 = .ok (.iadd, 1) := by decide +kernel
theorem dX9_determinant_164 : decode cX9_determinant 164 = .ok (.istore 8, 2) := by decide +kernel
theorem dX9_determinant_166 : decode cX9_determinant 166 = .ok (.iload 8, 2) := by decide +kernel
theorem dX9_determinant_168 : decode cX9_determinant 168 = .ok (.iload_n 1, 1) := by decide +kernel
theorem dX9_determinant_169 : decode cX9_determinant 169 = .ok (.if_icmp .ge 79, 3) := by decide +kernel
theorem dX9_determinant_172 : decode cX9_determinant 172 = .ok (.aload_n 0, 1) := by decide +kernel
theorem dX9_determinant_173 : decode cX9_determinant 173 = .ok (.getfield 108, 3) := by decide +kernel
theorem dX9_determinant_176 : decode cX9_determinant 176 = .ok (.bipush 11, 2) := by decide +kernel
theorem dX9_determinant_178 : decode cX9_determinant 178 = .ok (.iload 7, 2) := by decide +kernel
theorem dX9_determinant_180 : decode cX9_determinant 180 = .ok (.imul, 1) := by decide +kernel
theorem dX9_determinant_181 : decode cX9_determinant 181 = .ok (.iload 8, 2) := by decide +kernel
theorem dX9_determinant_183 : decode cX9_determinant 183 = .ok (.iadd, 1) := by decide +kernel
theorem dX9_determinant_184 : decode cX9_determinant 184 = .ok (.aload_n 0, 1) := by decide +kernel
theorem dX9_determinant_185 : decode cX9_determinant 185 = .ok (.getfield 108, 3) := by decide +kernel
theorem dX9_determinant_188 : decode cX9_determinant 188 = .ok (.bipush 11, 2) := by decide +kernel
theorem dX9_determinant_190 : decode cX9_determinant 190 = .ok (.iload 7, 2) := by decide +kernel
theorem dX9_determinant_192 : decode cX9_determinant 192 = .ok (.imul, 1) := by decide +kernel
theorem dX9_determinant_193 : decode cX9_determinant 193 = .ok (.iload 8, 2) := by decide +kernel
theorem dX9_determinant_195 : decode cX9_determinant 195 = .ok (.iadd, 1) := by decide +kernel
theorem dX9_determinant_196 : decode cX9_determinant 196 = .ok (.laload, 1) := by decide +kernel
theorem dX9_determinant_197 : decode cX9_determinant 197 = .ok (.aload_n 0, 1) := by decide +kernel
theorem dX9_determinant_198 : decode cX9_determinant 198 = .ok (.getfield 108, 3) := by decide +kernel
theorem dX9_determinant_201 : decode cX9_determinant 201 = .ok (.bipush 11, 2) := by decide +kernel
theorem dX9_determinant_203 : decode cX9_determinant 203 = .ok (.iload 5, 2) := by decide +kernel
theorem dX9_determinant_205 : decode cX9_determinant 205 = .ok (.imul, 1) := by decide +kernel
theorem dX9_determinant_206 : decode cX9_determinant 206 = .ok (.iload 5, 2) := by decide +kernel
theorem dX9_determinant_208 : decode cX9_determinant 208 = .ok (.iadd, 1) := by decide +kernel
theorem dX9_determinant_209 : decode cX9_determinant 209 = .ok (.laload, 1) := by decide +kernel
theorem dX9_determinant_210 : decode cX9_determinant 210 = .ok (.lmul, 1) := by decide +kernel
theorem dX9_determinant_211 : decode cX9_determinant 211 = .ok (.aload_n 0, 1) := by decide +kernel
theorem dX9_determinant_212 : decode cX9_determinant 212 = .ok (.getfield 108, 3) := by decide +kernel
theorem dX9_determinant_215 : decode cX9_determinant 215 = .ok (.bipush 11, 2) := by decide +kernel
theorem dX9_determinant_217 : decode cX9_determinant 217 = .ok (.iload 7, 2) := by decide +kernel
theorem dX9_determinant_219 : decode cX9_determinant 219 = .ok (.imul, 1) := by decide +kernel
theorem dX9_determinant_220 : decode cX9_determinant 220 = .ok (.iload 5, 2) := by decide +kernel
theorem dX9_determinant_222 : decode cX9_determinant 222 = .ok (.iadd, 1) := by decide +kernel
theorem dX9_determinant_223 : decode cX9_determinant 223 = .ok (.laload, 1) := by decide +kernel
theorem dX9_determinant_224 : decode cX9_determinant 224 = .ok (.aload_n 0, 1) := by decide +kernel
theorem dX9_determinant_225 : decode cX9_determinant 225 = .ok (.getfield 108, 3) := by decide +kernel
theorem dX9_determinant_228 : decode cX9_determinant 228 = .ok (.bipush 11, 2) := by decide +kernel
theorem dX9_determinant_230 : decode cX9_determinant 230 = .ok (.iload 5, 2) := by decide +kernel
theorem dX9_determinant_232 : decode cX9_determinant 232 = .ok (.imul, 1) := by decide +kernel
theorem dX9_determinant_233 : decode cX9_determinant 233 = .ok (.iload 8, 2) := by decide +kernel
theorem dX9_determinant_235 : decode cX9_determinant 235 = .ok (.iadd, 1) := by decide +kernel
theorem dX9_determinant_236 : decode cX9_determinant 236 = .ok (.laload, 1) := by decide +kernel
theorem dX9_determinant_237 : decode cX9_determinant 237 = .ok (.lmul, 1) := by decide +kernel
theorem dX9_determinant_238 : decode cX9_determinant 238 = .ok (.lsub, 1) := by decide +kernel
theorem dX9_determinant_239 : decode cX9_determinant 239 = .ok (.lload_n 2, 1) := by decide +kernel
theorem dX9_determinant_240 : decode cX9_determinant 240 = .ok (.ldiv, 1) := by decide +kernel
theorem dX9_determinant_241 : decode cX9_determinant 241 = .ok (.lastore, 1) := by decide +kernel
theorem dX9_determinant_242 : decode cX9_determinant 242 = .ok (.iinc 8 1, 3) := by decide +kernel
theorem dX9_determinant_245 : decode cX9_determinant 245 = .ok (.goto (-79), 3) := by decide +kernel
theorem dX9_determinant_248 : decode cX9_determinant 248 = .ok (.iinc 7 1, 3) := by decide +kernel
theorem dX9_determinant_251 : decode cX9_determinant 251 = .ok (.goto (-97), 3) := by decide +kernel
theorem dX9_determinant_254 : decode cX9_determinant 254 = .ok (.aload_n 0, 1) := by decide +kernel
theorem dX9_determinant_255 : decode cX9_determinant 255 = .ok (.getfield 108, 3) := by decide +kernel
theorem dX9_determinant_258 : decode cX9_determinant 258 = .ok (.bipush 11, 2) := by decide +kernel
theorem dX9_determinant_260 : decode cX9_determinant 260 = .ok (.iload 5, 2) := by decide +kernel
theorem dX9_determinant_262 : decode cX9_determinant 262 = .ok (.imul, 1) := by decide +kernel
theorem dX9_determinant_263 : decode cX9_determinant 263 = .ok (.iload 5, 2) := by decide +kernel
theorem dX9_determinant_265 : decode cX9_determinant 265 = .ok (.iadd, 1) := by decide +kernel
theorem dX9_determinant_266 : decode cX9_determinant 266 = .ok (.laload, 1) := by decide +kernel
theorem dX9_determinant_267 : decode cX9_determinant 267 = .ok (.lstore_n 2, 1) := by decide +kernel
theorem dX9_determinant_268 : decode cX9_determinant 268 = .ok (.iinc 5 1, 3) := by decide +kernel
theorem dX9_determinant_271 : decode cX9_determinant 271 = .ok (.goto (-263), 3) := by decide +kernel
theorem dX9_determinant_274 : decode cX9_determinant 274 = .ok (.iload_n 1, 1) := by decide +kernel
theorem dX9_determinant_275 : decode cX9_determinant 275 = .ok (.ifCond .ne 7, 3) := by decide +kernel
theorem dX9_determinant_278 : decode cX9_determinant 278 = .ok (.lconst 1, 1) := by decide +kernel
theorem dX9_determinant_279 : decode cX9_determinant 279 = .ok (.goto 22, 3) := by decide +kernel
theorem dX9_determinant_282 : decode cX9_determinant 282 = .ok (.iload 4, 2) := by decide +kernel
theorem dX9_determinant_284 : decode cX9_determinant 284 = .ok (.i2l, 1) := by decide +kernel
theorem dX9_determinant_285 : decode cX9_determinant 285 = .ok (.aload_n 0, 1) := by decide +kernel
theorem dX9_determinant_286 : decode cX9_determinant 286 = .ok (.getfield 108, 3) := by decide +kernel
theorem dX9_determinant_289 : decode cX9_determinant 289 = .ok (.bipush 11, 2) := by decide +kernel
theorem dX9_determinant_291 : decode cX9_determinant 291 = .ok (.iload_n 1, 1) := by decide +kernel
theorem dX9_determinant_292 : decode cX9_determinant 292 = .ok (.iconst 1, 1) := by decide +kernel
theorem dX9_determinant_293 : decode cX9_determinant 293 = .ok (.isub, 1) := by decide +kernel
theorem dX9_determinant_294 : decode cX9_determinant 294 = .ok (.imul, 1) := by decide +kernel
theorem dX9_determinant_295 : decode cX9_determinant 295 = .ok (.iload_n 1, 1) := by decide +kernel
theorem dX9_determinant_296 : decode cX9_determinant 296 = .ok (.iadd, 1) := by decide +kernel
theorem dX9_determinant_297 : decode cX9_determinant 297 = .ok (.iconst 1, 1) := by decide +kernel
theorem dX9_determinant_298 : decode cX9_determinant 298 = .ok (.isub, 1) := by decide +kernel
theorem dX9_determinant_299 : decode cX9_determinant 299 = .ok (.laload, 1) := by decide +kernel
theorem dX9_determinant_300 : decode cX9_determinant 300 = .ok (.lmul, 1) := by decide +kernel
theorem dX9_determinant_301 : decode cX9_determinant 301 = .ok (.lreturn, 1) := by decide +kernel
theorem dX9_defect_0 : decode cX9_defect 0 = .ok (.iconst 0, 1) := by decide +kernel
theorem dX9_defect_1 : decode cX9_defect 1 = .ok (.istore_n 2, 1) := by decide +kernel
theorem dX9_defect_2 : decode cX9_defect 2 = .ok (.iconst 1, 1) := by decide +kernel
theorem dX9_defect_3 : decode cX9_defect 3 = .ok (.istore_n 3, 1) := by decide +kernel
theorem dX9_defect_4 : decode cX9_defect 4 = .ok (.iload_n 3, 1) := by decide +kernel
theorem dX9_defect_5 : decode cX9_defect 5 = .ok (.aload_n 0, 1) := by decide +kernel
theorem dX9_defect_6 : decode cX9_defect 6 = .ok (.getfield 184, 3) := by decide +kernel
theorem dX9_defect_9 : decode cX9_defect 9 = .ok (.iload_n 1, 1) := by decide +kernel
theorem dX9_defect_10 : decode cX9_defect 10 = .ok (.imul, 1) := by decide +kernel
theorem dX9_defect_11 : decode cX9_defect 11 = .ok (.if_icmp .gt 37, 3) := by decide +kernel
theorem dX9_defect_14 : decode cX9_defect 14 = .ok (.iload_n 3, 1) := by decide +kernel
theorem dX9_defect_15 : decode cX9_defect 15 = .ok (.istore 4, 2) := by decide +kernel
theorem dX9_defect_17 : decode cX9_defect 17 = .ok (.iload 4, 2) := by decide +kernel
theorem dX9_defect_19 : decode cX9_defect 19 = .ok (.aload_n 0, 1) := by decide +kernel
theorem dX9_defect_20 : decode cX9_defect 20 = .ok (.getfield 184, 3) := by decide +kernel
theorem dX9_defect_23 : decode cX9_defect 23 = .ok (.irem, 1) := by decide +kernel
theorem dX9_defect_24 : decode cX9_defect 24 = .ok (.ifCond .ne 18, 3) := by decide +kernel
theorem dX9_defect_27 : decode cX9_defect 27 = .ok (.iinc 2 1, 3) := by decide +kernel
theorem dX9_defect_30 : decode cX9_defect 30 = .ok (.iload 4, 2) := by decide +kernel
theorem dX9_defect_32 : decode cX9_defect 32 = .ok (.aload_n 0, 1) := by decide +kernel
theorem dX9_defect_33 : decode cX9_defect 33 = .ok (.getfield 184, 3) := by decide +kernel
theorem dX9_defect_36 : decode cX9_defect 36 = .ok (.idiv, 1) := by decide +kernel
theorem dX9_defect_37 : decode cX9_defect 37 = .ok (.istore 4, 2) := by decide +kernel
theorem dX9_defect_39 : decode cX9_defect 39 = .ok (.goto (-22), 3) := by decide +kernel
theorem dX9_defect_42 : decode cX9_defect 42 = .ok (.iinc 3 1, 3) := by decide +kernel
theorem dX9_defect_45 : decode cX9_defect 45 = .ok (.goto (-41), 3) := by decide +kernel
theorem dX9_defect_48 : decode cX9_defect 48 = .ok (.iload_n 2, 1) := by decide +kernel
theorem dX9_defect_49 : decode cX9_defect 49 = .ok (.ireturn, 1) := by decide +kernel
theorem dX9_block_0 : decode cX9_block 0 = .ok (.iload_n 2, 1) := by decide +kernel
theorem dX9_block_1 : decode cX9_block 1 = .ok (.iconst (-1), 1) := by decide +kernel
theorem dX9_block_2 : decode cX9_block 2 = .ok (.if_icmp .ne 8, 3) := by decide +kernel
theorem dX9_block_5 : decode cX9_block 5 = .ok (.aload_n 0, 1) := by decide +kernel
theorem dX9_block_6 : decode cX9_block 6 = .ok (.getfield 199, 3) := by decide +kernel
theorem dX9_block_9 : decode cX9_block 9 = .ok (.ireturn, 1) := by decide +kernel
theorem dX9_block_10 : decode cX9_block 10 = .ok (.iload_n 1, 1) := by decide +kernel
theorem dX9_block_11 : decode cX9_block 11 = .ok (.i2l, 1) := by decide +kernel
theorem dX9_block_12 : decode cX9_block 12 = .ok (.lconst 0, 1) := by decide +kernel
theorem dX9_block_13 : decode cX9_block 13 = .ok (.aload_n 0, 1) := by decide +kernel
theorem dX9_block_14 : decode cX9_block 14 = .ok (.getfield 199, 3) := by decide +kernel
theorem dX9_block_17 : decode cX9_block 17 = .ok (.iconst 1, 1) := by decide +kernel
theorem dX9_block_18 : decode cX9_block 18 = .ok (.isub, 1) := by decide +kernel
theorem dX9_block_19 : decode cX9_block 19 = .ok (.i2l, 1) := by decide +kernel
theorem dX9_block_20 : decode cX9_block 20 = .ok (.invokestatic 283, 3) := by decide +kernel
theorem dX9_block_23 : decode cX9_block 23 = .ok (.ifCond .ne 5, 3) := by decide +kernel
theorem dX9_block_26 : decode cX9_block 26 = .ok (.iconst (-1), 1) := by decide +kernel
theorem dX9_block_27 : decode cX9_block 27 = .ok (.ireturn, 1) := by decide +kernel
theorem dX9_block_28 : decode cX9_block 28 = .ok (.aload_n 0, 1) := by decide +kernel
theorem dX9_block_29 : decode cX9_block 29 = .ok (.iload_n 1, 1) := by decide +kernel
theorem dX9_block_30 : decode cX9_block 30 = .ok (.invokevirtual 309, 3) := by decide +kernel
theorem dX9_block_33 : decode cX9_block 33 = .ok (.istore_n 3, 1) := by decide +kernel
theorem dX9_block_34 : decode cX9_block 34 = .ok (.iconst 0, 1) := by decide +kernel
theorem dX9_block_35 : decode cX9_block 35 = .ok (.istore 4, 2) := by decide +kernel
theorem dX9_block_37 : decode cX9_block 37 = .ok (.iconst 0, 1) := by decide +kernel
theorem dX9_block_38 : decode cX9_block 38 = .ok (.istore 5, 2) := by decide +kernel
theorem dX9_block_40 : decode cX9_block 40 = .ok (.iload 5, 2) := by decide +kernel
theorem dX9_block_42 : decode cX9_block 42 = .ok (.aload_n 0, 1) := by decide +kernel
theorem dX9_block_43 : decode cX9_block 43 = .ok (.getfield 153, 3) := by decide +kernel
theorem dX9_block_46 : decode cX9_block 46 = .ok (.if_icmp .ge 33, 3) := by decide +kernel
theorem dX9_block_49 : decode cX9_block 49 = .ok (.iload 4, 2) := by decide +kernel
theorem dX9_block_51 : decode cX9_block 51 = .ok (.aload_n 0, 1) := by decide +kernel
theorem dX9_block_52 : decode cX9_block 52 = .ok (.getfield 47, 3) := by decide +kernel
theorem dX9_block_55 : decode cX9_block 55 = .ok (.iload 5, 2) := by decide +kernel
theorem dX9_block_57 : decode cX9_block 57 = .ok (.iaload, 1) := by decide +kernel
theorem dX9_block_58 : decode cX9_block 58 = .ok (.iload_n 1, 1) := by decide +kernel
theorem dX9_block_59 : decode cX9_block 59 = .ok (.if_icmp .ne 7, 3) := by decide +kernel
theorem dX9_block_62 : decode cX9_block 62 = .ok (.iconst 1, 1) := by decide +kernel
theorem dX9_block_63 : decode cX9_block 63 = .ok (.goto 4, 3) := by decide +kernel
theorem dX9_block_66 : decode cX9_block 66 = .ok (.iconst 0, 1) := by decide +kernel
theorem dX9_block_67 : decode cX9_block 67 = .ok (.invokestatic 187, 3) := by decide +kernel
theorem dX9_block_70 : decode cX9_block 70 = .ok (.iadd, 1) := by decide +kernel
theorem dX9_block_71 : decode cX9_block 71 = .ok (.istore 4, 2) := by decide +kernel
theorem dX9_block_73 : decode cX9_block 73 = .ok (.iinc 5 1, 3) := by decide +kernel
theorem dX9_block_76 : decode cX9_block 76 = .ok (.goto (-36), 3) := by decide +kernel
theorem dX9_block_79 : decode cX9_block 79 = .ok (.iload_n 2, 1) := by decide +kernel
theorem dX9_block_80 : decode cX9_block 80 = .ok (.tableswitch 149 0 5 #[40, 43, 45, 57, 73, 80], 40) := by decide +kernel
theorem dX9_block_120 : decode cX9_block 120 = .ok (.iload 4, 2) := by decide +kernel
theorem dX9_block_122 : decode cX9_block 122 = .ok (.ireturn, 1) := by decide +kernel
theorem dX9_block_123 : decode cX9_block 123 = .ok (.iload_n 3, 1) := by decide +kernel
theorem dX9_block_124 : decode cX9_block 124 = .ok (.ireturn, 1) := by decide +kernel
theorem dX9_block_125 : decode cX9_block 125 = .ok (.aload_n 0, 1) := by decide +kernel
theorem dX9_block_126 : decode cX9_block 126 = .ok (.getfield 41, 3) := by decide +kernel
theorem dX9_block_129 : decode cX9_block 129 = .ok (.aload_n 0, 1) := by decide +kernel
theorem dX9_block_130 : decode cX9_block 130 = .ok (.getfield 50, 3) := by decide +kernel
theorem dX9_block_133 : decode cX9_block 133 = .ok (.iload_n 1, 1) := by decide +kernel
theorem dX9_block_134 : decode cX9_block 134 = .ok (.iaload, 1) := by decide +kernel
theorem dX9_block_135 : decode cX9_block 135 = .ok (.iaload, 1) := by decide +kernel
theorem dX9_block_136 : decode cX9_block 136 = .ok (.ireturn, 1) := by decide +kernel
theorem dX9_block_137 : decode cX9_block 137 = .ok (.aload_n 0, 1) := by decide +kernel
theorem dX9_block_138 : decode cX9_block 138 = .ok (.aload_n 0, 1) := by decide +kernel
theorem dX9_block_139 : decode cX9_block 139 = .ok (.getfield 41, 3) := by decide +kernel
theorem dX9_block_142 : decode cX9_block 142 = .ok (.aload_n 0, 1) := by decide +kernel
theorem dX9_block_143 : decode cX9_block 143 = .ok (.getfield 50, 3) := by decide +kernel
theorem dX9_block_146 : decode cX9_block 146 = .ok (.iload_n 1, 1) := by decide +kernel
theorem dX9_block_147 : decode cX9_block 147 = .ok (.iaload, 1) := by decide +kernel
theorem dX9_block_148 : decode cX9_block 148 = .ok (.iaload, 1) := by decide +kernel
theorem dX9_block_149 : decode cX9_block 149 = .ok (.invokevirtual 312, 3) := by decide +kernel
theorem dX9_block_152 : decode cX9_block 152 = .ok (.ireturn, 1) := by decide +kernel
theorem dX9_block_153 : decode cX9_block 153 = .ok (.aload_n 0, 1) := by decide +kernel
theorem dX9_block_154 : decode cX9_block 154 = .ok (.getfield 50, 3) := by decide +kernel
theorem dX9_block_157 : decode cX9_block 157 = .ok (.iload_n 1, 1) := by decide +kernel
theorem dX9_block_158 : decode cX9_block 158 = .ok (.iaload, 1) := by decide +kernel
theorem dX9_block_159 : decode cX9_block 159 = .ok (.ireturn, 1) := by decide +kernel
theorem dX9_block_160 : decode cX9_block 160 = .ok (.iconst 0, 1) := by decide +kernel
theorem dX9_block_161 : decode cX9_block 161 = .ok (.istore 5, 2) := by decide +kernel
theorem dX9_block_163 : decode cX9_block 163 = .ok (.iload 5, 2) := by decide +kernel
theorem dX9_block_165 : decode cX9_block 165 = .ok (.iload_n 3, 1) := by decide +kernel
theorem dX9_block_166 : decode cX9_block 166 = .ok (.if_icmp .ge 56, 3) := by decide +kernel
theorem dX9_block_169 : decode cX9_block 169 = .ok (.iconst 0, 1) := by decide +kernel
theorem dX9_block_170 : decode cX9_block 170 = .ok (.istore 6, 2) := by decide +kernel
theorem dX9_block_172 : decode cX9_block 172 = .ok (.iload 6, 2) := by decide +kernel
theorem dX9_block_174 : decode cX9_block 174 = .ok (.iload_n 3, 1) := by decide +kernel
theorem dX9_block_175 : decode cX9_block 175 = .ok (.if_icmp .ge 41, 3) := by decide +kernel
theorem dX9_block_178 : decode cX9_block 178 = .ok (.aload_n 0, 1) := by decide +kernel
theorem dX9_block_179 : decode cX9_block 179 = .ok (.getfield 108, 3) := by decide +kernel
theorem dX9_block_182 : decode cX9_block 182 = .ok (.bipush 11, 2) := by decide +kernel
theorem dX9_block_184 : decode cX9_block 184 = .ok (.iload 5, 2) := by decide +kernel
theorem dX9_block_186 : decode cX9_block 186 = .ok (.imul, 1) := by decide +kernel
theorem dX9_block_187 : decode cX9_block 187 = .ok (.iload 6, 2) := by decide +kernel
theorem dX9_block_189 : decode cX9_block 189 = .ok (.iadd, 1) := by decide +kernel
theorem dX9_block_190 : decode cX9_block 190 = .ok (.aload_n 0, 1) := by decide +kernel
theorem dX9_block_191 : decode cX9_block 191 = .ok (.aload_n 0, 1) := by decide +kernel
theorem dX9_block_192 : decode cX9_block 192 = .ok (.getfield 112, 3) := by decide +kernel
theorem dX9_block_195 : decode cX9_block 195 = .ok (.iload 5, 2) := by decide +kernel
theorem dX9_block_197 : decode cX9_block 197 = .ok (.iaload, 1) := by decide +kernel
theorem dX9_block_198 : decode cX9_block 198 = .ok (.aload_n 0, 1) := by decide +kernel
theorem dX9_block_199 : decode cX9_block 199 = .ok (.getfield 112, 3) := by decide +kernel
theorem dX9_block_202 : decode cX9_block 202 = .ok (.iload 6, 2) := by decide +kernel
theorem dX9_block_204 : decode cX9_block 204 = .ok (.iaload, 1) := by decide +kernel
theorem dX9_block_205 : decode cX9_block 205 = .ok (.invokevirtual 306, 3) := by decide +kernel
theorem dX9_block_208 : decode cX9_block 208 = .ok (.i2l, 1) := by decide +kernel
theorem dX9_block_209 : decode cX9_block 209 = .ok (.lastore, 1) := by decide +kernel
theorem dX9_block_210 : decode cX9_block 210 = .ok (.iinc 6 1, 3) := by decide +kernel
theorem dX9_block_213 : decode cX9_block 213 = .ok (.goto (-41), 3) := by decide +kernel
theorem dX9_block_216 : decode cX9_block 216 = .ok (.iinc 5 1, 3) := by decide +kernel
theorem dX9_block_219 : decode cX9_block 219 = .ok (.goto (-56), 3) := by decide +kernel
theorem dX9_block_222 : decode cX9_block 222 = .ok (.aload_n 0, 1) := by decide +kernel
theorem dX9_block_223 : decode cX9_block 223 = .ok (.iload_n 3, 1) := by decide +kernel
theorem dX9_block_224 : decode cX9_block 224 = .ok (.invokevirtual 315, 3) := by decide +kernel
theorem dX9_block_227 : decode cX9_block 227 = .ok (.l2i, 1) := by decide +kernel
theorem dX9_block_228 : decode cX9_block 228 = .ok (.ireturn, 1) := by decide +kernel
theorem dX9_block_229 : decode cX9_block 229 = .ok (.iconst (-1), 1) := by decide +kernel
theorem dX9_block_230 : decode cX9_block 230 = .ok (.ireturn, 1) := by decide +kernel
theorem dX9_isSlot_0 : decode cX9_isSlot 0 = .ok (.iload_n 0, 1) := by decide +kernel
theorem dX9_isSlot_1 : decode cX9_isSlot 1 = .ok (.i2l, 1) := by decide +kernel
theorem dX9_isSlot_2 : decode cX9_isSlot 2 = .ok (.lconst 0, 1) := by decide +kernel
theorem dX9_isSlot_3 : decode cX9_isSlot 3 = .ok (.ldc2_w 301, 3) := by decide +kernel
theorem dX9_isSlot_6 : decode cX9_isSlot 6 = .ok (.invokestatic 283, 3) := by decide +kernel
theorem dX9_isSlot_9 : decode cX9_isSlot 9 = .ok (.ireturn, 1) := by decide +kernel
theorem dX9_value_0 : decode cX9_value 0 = .ok (.iload_n 1, 1) := by decide +kernel
theorem dX9_value_1 : decode cX9_value 1 = .ok (.invokestatic 319, 3) := by decide +kernel
theorem dX9_value_4 : decode cX9_value 4 = .ok (.ifCond .eq 25, 3) := by decide +kernel
theorem dX9_value_7 : decode cX9_value 7 = .ok (.aload_n 0, 1) := by decide +kernel
theorem dX9_value_8 : decode cX9_value 8 = .ok (.iload_n 2, 1) := by decide +kernel
theorem dX9_value_9 : decode cX9_value 9 = .ok (.invokevirtual 287, 3) := by decide +kernel
theorem dX9_value_12 : decode cX9_value 12 = .ok (.ifCond .eq 17, 3) := by decide +kernel
theorem dX9_value_15 : decode cX9_value 15 = .ok (.aload_n 0, 1) := by decide +kernel
theorem dX9_value_16 : decode cX9_value 16 = .ok (.getfield 115, 3) := by decide +kernel
theorem dX9_value_19 : decode cX9_value 19 = .ok (.bipush 11, 2) := by decide +kernel
theorem dX9_value_21 : decode cX9_value 21 = .ok (.iload_n 1, 1) := by decide +kernel
theorem dX9_value_22 : decode cX9_value 22 = .ok (.imul, 1) := by decide +kernel
theorem dX9_value_23 : decode cX9_value 23 = .ok (.iload_n 2, 1) := by decide +kernel
theorem dX9_value_24 : decode cX9_value 24 = .ok (.iadd, 1) := by decide +kernel
theorem dX9_value_25 : decode cX9_value 25 = .ok (.laload, 1) := by decide +kernel
theorem dX9_value_26 : decode cX9_value 26 = .ok (.goto 6, 3) := by decide +kernel
theorem dX9_value_29 : decode cX9_value 29 = .ok (.ldc2_w 324, 3) := by decide +kernel
theorem dX9_value_32 : decode cX9_value 32 = .ok (.lreturn, 1) := by decide +kernel
theorem dX9_ordinarySum_0 : decode cX9_ordinarySum 0 = .ok (.lconst 0, 1) := by decide +kernel
theorem dX9_ordinarySum_1 : decode cX9_ordinarySum 1 = .ok (.lstore_n 3, 1) := by decide +kernel
theorem dX9_ordinarySum_2 : decode cX9_ordinarySum 2 = .ok (.iconst 0, 1) := by decide +kernel
theorem dX9_ordinarySum_3 : decode cX9_ordinarySum 3 = .ok (.istore 5, 2) := by decide +kernel
theorem dX9_ordinarySum_5 : decode cX9_ordinarySum 5 = .ok (.iload 5, 2) := by decide +kernel
theorem dX9_ordinarySum_7 : decode cX9_ordinarySum 7 = .ok (.aload_n 0, 1) := by decide +kernel
theorem dX9_ordinarySum_8 : decode cX9_ordinarySum 8 = .ok (.getfield 153, 3) := by decide +kernel
theorem dX9_ordinarySum_11 : decode cX9_ordinarySum 11 = .ok (.if_icmp .ge 47, 3) := by decide +kernel
theorem dX9_ordinarySum_14 : decode cX9_ordinarySum 14 = .ok (.lload_n 3, 1) := by decide +kernel
theorem dX9_ordinarySum_15 : decode cX9_ordinarySum 15 = .ok (.aload_n 0, 1) := by decide +kernel
theorem dX9_ordinarySum_16 : decode cX9_ordinarySum 16 = .ok (.getfield 115, 3) := by decide +kernel
theorem dX9_ordinarySum_19 : decode cX9_ordinarySum 19 = .ok (.bipush 11, 2) := by decide +kernel
theorem dX9_ordinarySum_21 : decode cX9_ordinarySum 21 = .ok (.iload_n 1, 1) := by decide +kernel
theorem dX9_ordinarySum_22 : decode cX9_ordinarySum 22 = .ok (.imul, 1) := by decide +kernel
theorem dX9_ordinarySum_23 : decode cX9_ordinarySum 23 = .ok (.iload 5, 2) := by decide +kernel
theorem dX9_ordinarySum_25 : decode cX9_ordinarySum 25 = .ok (.iadd, 1) := by decide +kernel
theorem dX9_ordinarySum_26 : decode cX9_ordinarySum 26 = .ok (.laload, 1) := by decide +kernel
theorem dX9_ordinarySum_27 : decode cX9_ordinarySum 27 = .ok (.aload_n 0, 1) := by decide +kernel
theorem dX9_ordinarySum_28 : decode cX9_ordinarySum 28 = .ok (.getfield 16, 3) := by decide +kernel
theorem dX9_ordinarySum_31 : decode cX9_ordinarySum 31 = .ok (.iload 5, 2) := by decide +kernel
theorem dX9_ordinarySum_33 : decode cX9_ordinarySum 33 = .ok (.iaload, 1) := by decide +kernel
theorem dX9_ordinarySum_34 : decode cX9_ordinarySum 34 = .ok (.i2l, 1) := by decide +kernel
theorem dX9_ordinarySum_35 : decode cX9_ordinarySum 35 = .ok (.lmul, 1) := by decide +kernel
theorem dX9_ordinarySum_36 : decode cX9_ordinarySum 36 = .ok (.aload_n 0, 1) := by decide +kernel
theorem dX9_ordinarySum_37 : decode cX9_ordinarySum 37 = .ok (.getfield 38, 3) := by decide +kernel
theorem dX9_ordinarySum_40 : decode cX9_ordinarySum 40 = .ok (.bipush 11, 2) := by decide +kernel
theorem dX9_ordinarySum_42 : decode cX9_ordinarySum 42 = .ok (.iload_n 2, 1) := by decide +kernel
theorem dX9_ordinarySum_43 : decode cX9_ordinarySum 43 = .ok (.imul, 1) := by decide +kernel
theorem dX9_ordinarySum_44 : decode cX9_ordinarySum 44 = .ok (.iload 5, 2) := by decide +kernel
theorem dX9_ordinarySum_46 : decode cX9_ordinarySum 46 = .ok (.iadd, 1) := by decide +kernel
theorem dX9_ordinarySum_47 : decode cX9_ordinarySum 47 = .ok (.iaload, 1) := by decide +kernel
theorem dX9_ordinarySum_48 : decode cX9_ordinarySum 48 = .ok (.i2l, 1) := by decide +kernel
theorem dX9_ordinarySum_49 : decode cX9_ordinarySum 49 = .ok (.lmul, 1) := by decide +kernel
theorem dX9_ordinarySum_50 : decode cX9_ordinarySum 50 = .ok (.ladd, 1) := by decide +kernel
theorem dX9_ordinarySum_51 : decode cX9_ordinarySum 51 = .ok (.lstore_n 3, 1) := by decide +kernel
theorem dX9_ordinarySum_52 : decode cX9_ordinarySum 52 = .ok (.iinc 5 1, 3) := by decide +kernel
theorem dX9_ordinarySum_55 : decode cX9_ordinarySum 55 = .ok (.goto (-50), 3) := by decide +kernel
theorem dX9_ordinarySum_58 : decode cX9_ordinarySum 58 = .ok (.lload_n 3, 1) := by decide +kernel
theorem dX9_ordinarySum_59 : decode cX9_ordinarySum 59 = .ok (.lreturn, 1) := by decide +kernel
theorem dX9_modularSum_0 : decode cX9_modularSum 0 = .ok (.lconst 0, 1) := by decide +kernel
theorem dX9_modularSum_1 : decode cX9_modularSum 1 = .ok (.lstore_n 3, 1) := by decide +kernel
theorem dX9_modularSum_2 : decode cX9_modularSum 2 = .ok (.iconst 0, 1) := by decide +kernel
theorem dX9_modularSum_3 : decode cX9_modularSum 3 = .ok (.istore 5, 2) := by decide +kernel
theorem dX9_modularSum_5 : decode cX9_modularSum 5 = .ok (.iload 5, 2) := by decide +kernel
theorem dX9_modularSum_7 : decode cX9_modularSum 7 = .ok (.aload_n 0, 1) := by decide +kernel
theorem dX9_modularSum_8 : decode cX9_modularSum 8 = .ok (.getfield 153, 3) := by decide +kernel
theorem dX9_modularSum_11 : decode cX9_modularSum 11 = .ok (.if_icmp .ge 57, 3) := by decide +kernel
theorem dX9_modularSum_14 : decode cX9_modularSum 14 = .ok (.aload_n 0, 1) := by decide +kernel
theorem dX9_modularSum_15 : decode cX9_modularSum 15 = .ok (.getfield 26, 3) := by decide +kernel
theorem dX9_modularSum_18 : decode cX9_modularSum 18 = .ok (.iload 5, 2) := by decide +kernel
theorem dX9_modularSum_20 : decode cX9_modularSum 20 = .ok (.baload, 1) := by decide +kernel
theorem dX9_modularSum_21 : decode cX9_modularSum 21 = .ok (.ifCond .eq 41, 3) := by decide +kernel
theorem dX9_modularSum_24 : decode cX9_modularSum 24 = .ok (.lload_n 3, 1) := by decide +kernel
theorem dX9_modularSum_25 : decode cX9_modularSum 25 = .ok (.aload_n 0, 1) := by decide +kernel
theorem dX9_modularSum_26 : decode cX9_modularSum 26 = .ok (.getfield 115, 3) := by decide +kernel
theorem dX9_modularSum_29 : decode cX9_modularSum 29 = .ok (.bipush 11, 2) := by decide +kernel
theorem dX9_modularSum_31 : decode cX9_modularSum 31 = .ok (.iload_n 1, 1) := by decide +kernel
theorem dX9_modularSum_32 : decode cX9_modularSum 32 = .ok (.imul, 1) := by decide +kernel
theorem dX9_modularSum_33 : decode cX9_modularSum 33 = .ok (.iload 5, 2) := by decide +kernel
theorem dX9_modularSum_35 : decode cX9_modularSum 35 = .ok (.iadd, 1) := by decide +kernel
theorem dX9_modularSum_36 : decode cX9_modularSum 36 = .ok (.laload, 1) := by decide +kernel
theorem dX9_modularSum_37 : decode cX9_modularSum 37 = .ok (.aload_n 0, 1) := by decide +kernel
theorem dX9_modularSum_38 : decode cX9_modularSum 38 = .ok (.getfield 16, 3) := by decide +kernel
theorem dX9_modularSum_41 : decode cX9_modularSum 41 = .ok (.iload 5, 2) := by decide +kernel
theorem dX9_modularSum_43 : decode cX9_modularSum 43 = .ok (.iaload, 1) := by decide +kernel
theorem dX9_modularSum_44 : decode cX9_modularSum 44 = .ok (.i2l, 1) := by decide +kernel
theorem dX9_modularSum_45 : decode cX9_modularSum 45 = .ok (.lmul, 1) := by decide +kernel
theorem dX9_modularSum_46 : decode cX9_modularSum 46 = .ok (.aload_n 0, 1) := by decide +kernel
theorem dX9_modularSum_47 : decode cX9_modularSum 47 = .ok (.getfield 105, 3) := by decide +kernel
theorem dX9_modularSum_50 : decode cX9_modularSum 50 = .ok (.bipush 11, 2) := by decide +kernel
theorem dX9_modularSum_52 : decode cX9_modularSum 52 = .ok (.iload_n 2, 1) := by decide +kernel
theorem dX9_modularSum_53 : decode cX9_modularSum 53 = .ok (.imul, 1) := by decide +kernel
theorem dX9_modularSum_54 : decode cX9_modularSum 54 = .ok (.iload 5, 2) := by decide +kernel
theorem dX9_modularSum_56 : decode cX9_modularSum 56 = .ok (.iadd, 1) := by decide +kernel
theorem dX9_modularSum_57 : decode cX9_modularSum 57 = .ok (.iaload, 1) := by decide +kernel
theorem dX9_modularSum_58 : decode cX9_modularSum 58 = .ok (.i2l, 1) := by decide +kernel
theorem dX9_modularSum_59 : decode cX9_modularSum 59 = .ok (.lmul, 1) := by decide +kernel
theorem dX9_modularSum_60 : decode cX9_modularSum 60 = .ok (.ladd, 1) := by decide +kernel
theorem dX9_modularSum_61 : decode cX9_modularSum 61 = .ok (.lstore_n 3, 1) := by decide +kernel
theorem dX9_modularSum_62 : decode cX9_modularSum 62 = .ok (.iinc 5 1, 3) := by decide +kernel
theorem dX9_modularSum_65 : decode cX9_modularSum 65 = .ok (.goto (-60), 3) := by decide +kernel
theorem dX9_modularSum_68 : decode cX9_modularSum 68 = .ok (.lload_n 3, 1) := by decide +kernel
theorem dX9_modularSum_69 : decode cX9_modularSum 69 = .ok (.lreturn, 1) := by decide +kernel
theorem dX9_divisor_0 : decode cX9_divisor 0 = .ok (.lload_n 0, 1) := by decide +kernel
theorem dX9_divisor_1 : decode cX9_divisor 1 = .ok (.lconst 0, 1) := by decide +kernel
theorem dX9_divisor_2 : decode cX9_divisor 2 = .ok (.lcmp, 1) := by decide +kernel
theorem dX9_divisor_3 : decode cX9_divisor 3 = .ok (.ifCond .ge 8, 3) := by decide +kernel
theorem dX9_divisor_6 : decode cX9_divisor 6 = .ok (.lload_n 0, 1) := by decide +kernel
theorem dX9_divisor_7 : decode cX9_divisor 7 = .ok (.lneg, 1) := by decide +kernel
theorem dX9_divisor_8 : decode cX9_divisor 8 = .ok (.goto 4, 3) := by decide +kernel
theorem dX9_divisor_11 : decode cX9_divisor 11 = .ok (.lload_n 0, 1) := by decide +kernel
theorem dX9_divisor_12 : decode cX9_divisor 12 = .ok (.lstore 4, 2) := by decide +kernel
theorem dX9_divisor_14 : decode cX9_divisor 14 = .ok (.lload_n 2, 1) := by decide +kernel
theorem dX9_divisor_15 : decode cX9_divisor 15 = .ok (.lstore 6, 2) := by decide +kernel
theorem dX9_divisor_17 : decode cX9_divisor 17 = .ok (.lload 6, 2) := by decide +kernel
theorem dX9_divisor_19 : decode cX9_divisor 19 = .ok (.lconst 0, 1) := by decide +kernel
theorem dX9_divisor_20 : decode cX9_divisor 20 = .ok (.lcmp, 1) := by decide +kernel
theorem dX9_divisor_21 : decode cX9_divisor 21 = .ok (.ifCond .eq 21, 3) := by decide +kernel
theorem dX9_divisor_24 : decode cX9_divisor 24 = .ok (.lload 4, 2) := by decide +kernel
theorem dX9_divisor_26 : decode cX9_divisor 26 = .ok (.lload 6, 2) := by decide +kernel
theorem dX9_divisor_28 : decode cX9_divisor 28 = .ok (.lrem, 1) := by decide +kernel
theorem dX9_divisor_29 : decode cX9_divisor 29 = .ok (.lstore 8, 2) := by decide +kernel
theorem dX9_divisor_31 : decode cX9_divisor 31 = .ok (.lload 6, 2) := by decide +kernel
theorem dX9_divisor_33 : decode cX9_divisor 33 = .ok (.lstore 4, 2) := by decide +kernel
theorem dX9_divisor_35 : decode cX9_divisor 35 = .ok (.lload 8, 2) := by decide +kernel
theorem dX9_divisor_37 : decode cX9_divisor 37 = .ok (.lstore 6, 2) := by decide +kernel
theorem dX9_divisor_39 : decode cX9_divisor 39 = .ok (.goto (-22), 3) := by decide +kernel
theorem dX9_divisor_42 : decode cX9_divisor 42 = .ok (.lload 4, 2) := by decide +kernel
theorem dX9_divisor_44 : decode cX9_divisor 44 = .ok (.lreturn, 1) := by decide +kernel
theorem dX9_parts_0 : decode cX9_parts 0 = .ok (.iload_n 1, 1) := by decide +kernel
theorem dX9_parts_1 : decode cX9_parts 1 = .ok (.invokestatic 319, 3) := by decide +kernel
theorem dX9_parts_4 : decode cX9_parts 4 = .ok (.ifCond .eq 39, 3) := by decide +kernel
theorem dX9_parts_7 : decode cX9_parts 7 = .ok (.aload_n 0, 1) := by decide +kernel
theorem dX9_parts_8 : decode cX9_parts 8 = .ok (.iload_n 2, 1) := by decide +kernel
theorem dX9_parts_9 : decode cX9_parts 9 = .ok (.invokevirtual 287, 3) := by decide +kernel
theorem dX9_parts_12 : decode cX9_parts 12 = .ok (.ifCond .eq 31, 3) := by decide +kernel
theorem dX9_parts_15 : decode cX9_parts 15 = .ok (.iload_n 3, 1) := by decide +kernel
theorem dX9_parts_16 : decode cX9_parts 16 = .ok (.i2l, 1) := by decide +kernel
theorem dX9_parts_17 : decode cX9_parts 17 = .ok (.lconst 0, 1) := by decide +kernel
theorem dX9_parts_18 : decode cX9_parts 18 = .ok (.ldc2_w 326, 3) := by decide +kernel
theorem dX9_parts_21 : decode cX9_parts 21 = .ok (.invokestatic 283, 3) := by decide +kernel
theorem dX9_parts_24 : decode cX9_parts 24 = .ok (.ifCond .eq 19, 3) := by decide +kernel
theorem dX9_parts_27 : decode cX9_parts 27 = .ok (.iload_n 3, 1) := by decide +kernel
theorem dX9_parts_28 : decode cX9_parts 28 = .ok (.iconst 2, 1) := by decide +kernel
theorem dX9_parts_29 : decode cX9_parts 29 = .ok (.irem, 1) := by decide +kernel
theorem dX9_parts_30 : decode cX9_parts 30 = .ok (.iconst 1, 1) := by decide +kernel
theorem dX9_parts_31 : decode cX9_parts 31 = .ok (.if_icmp .ne 16, 3) := by decide +kernel
theorem dX9_parts_34 : decode cX9_parts 34 = .ok (.aload_n 0, 1) := by decide +kernel
theorem dX9_parts_35 : decode cX9_parts 35 = .ok (.getfield 22, 3) := by decide +kernel
theorem dX9_parts_38 : decode cX9_parts 38 = .ok (.iload_n 2, 1) := by decide +kernel
theorem dX9_parts_39 : decode cX9_parts 39 = .ok (.baload, 1) := by decide +kernel
theorem dX9_parts_40 : decode cX9_parts 40 = .ok (.ifCond .ne 7, 3) := by decide +kernel
theorem dX9_parts_43 : decode cX9_parts 43 = .ok (.ldc2_w 324, 3) := by decide +kernel
theorem dX9_parts_46 : decode cX9_parts 46 = .ok (.lreturn, 1) := by decide +kernel
theorem dX9_parts_47 : decode cX9_parts 47 = .ok (.iload_n 3, 1) := by decide +kernel
theorem dX9_parts_48 : decode cX9_parts 48 = .ok (.iconst 2, 1) := by decide +kernel
theorem dX9_parts_49 : decode cX9_parts 49 = .ok (.irem, 1) := by decide +kernel
theorem dX9_parts_50 : decode cX9_parts 50 = .ok (.ifCond .ne 12, 3) := by decide +kernel
theorem dX9_parts_53 : decode cX9_parts 53 = .ok (.aload_n 0, 1) := by decide +kernel
theorem dX9_parts_54 : decode cX9_parts 54 = .ok (.iload_n 1, 1) := by decide +kernel
theorem dX9_parts_55 : decode cX9_parts 55 = .ok (.iload_n 2, 1) := by decide +kernel
theorem dX9_parts_56 : decode cX9_parts 56 = .ok (.invokevirtual 328, 3) := by decide +kernel
theorem dX9_parts_59 : decode cX9_parts 59 = .ok (.goto 9, 3) := by decide +kernel
theorem dX9_parts_62 : decode cX9_parts 62 = .ok (.aload_n 0, 1) := by decide +kernel
theorem dX9_parts_63 : decode cX9_parts 63 = .ok (.iload_n 1, 1) := by decide +kernel
theorem dX9_parts_64 : decode cX9_parts 64 = .ok (.iload_n 2, 1) := by decide +kernel
theorem dX9_parts_65 : decode cX9_parts 65 = .ok (.invokevirtual 332, 3) := by decide +kernel
theorem dX9_parts_68 : decode cX9_parts 68 = .ok (.lstore 4, 2) := by decide +kernel
theorem dX9_parts_70 : decode cX9_parts 70 = .ok (.lload 4, 2) := by decide +kernel
theorem dX9_parts_72 : decode cX9_parts 72 = .ok (.aload_n 0, 1) := by decide +kernel
theorem dX9_parts_73 : decode cX9_parts 73 = .ok (.getfield 166, 3) := by decide +kernel
theorem dX9_parts_76 : decode cX9_parts 76 = .ok (.i2l, 1) := by decide +kernel
theorem dX9_parts_77 : decode cX9_parts 77 = .ok (.invokestatic 335, 3) := by decide +kernel
theorem dX9_parts_80 : decode cX9_parts 80 = .ok (.lstore 6, 2) := by decide +kernel
theorem dX9_parts_82 : decode cX9_parts 82 = .ok (.iload_n 3, 1) := by decide +kernel
theorem dX9_parts_83 : decode cX9_parts 83 = .ok (.iconst 2, 1) := by decide +kernel
theorem dX9_parts_84 : decode cX9_parts 84 = .ok (.if_icmp .ge 11, 3) := by decide +kernel
theorem dX9_parts_87 : decode cX9_parts 87 = .ok (.lload 4, 2) := by decide +kernel
theorem dX9_parts_89 : decode cX9_parts 89 = .ok (.lload 6, 2) := by decide +kernel
theorem dX9_parts_91 : decode cX9_parts 91 = .ok (.ldiv, 1) := by decide +kernel
theorem dX9_parts_92 : decode cX9_parts 92 = .ok (.goto 11, 3) := by decide +kernel
theorem dX9_parts_95 : decode cX9_parts 95 = .ok (.aload_n 0, 1) := by decide +kernel
theorem dX9_parts_96 : decode cX9_parts 96 = .ok (.getfield 166, 3) := by decide +kernel
theorem dX9_parts_99 : decode cX9_parts 99 = .ok (.i2l, 1) := by decide +kernel
theorem dX9_parts_100 : decode cX9_parts 100 = .ok (.lload 6, 2) := by decide +kernel
theorem dX9_parts_102 : decode cX9_parts 102 = .ok (.ldiv, 1) := by decide +kernel
theorem dX9_parts_103 : decode cX9_parts 103 = .ok (.lreturn, 1) := by decide +kernel
theorem dX9_inner_0 : decode cX9_inner 0 = .ok (.iload_n 1, 1) := by decide +kernel
theorem dX9_inner_1 : decode cX9_inner 1 = .ok (.invokestatic 319, 3) := by decide +kernel
theorem dX9_inner_4 : decode cX9_inner 4 = .ok (.ifCond .eq 10, 3) := by decide +kernel
theorem dX9_inner_7 : decode cX9_inner 7 = .ok (.iload_n 2, 1) := by decide +kernel
theorem dX9_inner_8 : decode cX9_inner 8 = .ok (.invokestatic 319, 3) := by decide +kernel
theorem dX9_inner_11 : decode cX9_inner 11 = .ok (.ifCond .ne 7, 3) := by decide +kernel
theorem dX9_inner_14 : decode cX9_inner 14 = .ok (.ldc2_w 339, 3) := by decide +kernel
theorem dX9_inner_17 : decode cX9_inner 17 = .ok (.lreturn, 1) := by decide +kernel
theorem dX9_inner_18 : decode cX9_inner 18 = .ok (.lconst 0, 1) := by decide +kernel
theorem dX9_inner_19 : decode cX9_inner 19 = .ok (.lstore_n 3, 1) := by decide +kernel
theorem dX9_inner_20 : decode cX9_inner 20 = .ok (.iconst 0, 1) := by decide +kernel
theorem dX9_inner_21 : decode cX9_inner 21 = .ok (.istore 5, 2) := by decide +kernel
theorem dX9_inner_23 : decode cX9_inner 23 = .ok (.iload 5, 2) := by decide +kernel
theorem dX9_inner_25 : decode cX9_inner 25 = .ok (.aload_n 0, 1) := by decide +kernel
theorem dX9_inner_26 : decode cX9_inner 26 = .ok (.getfield 153, 3) := by decide +kernel
theorem dX9_inner_29 : decode cX9_inner 29 = .ok (.if_icmp .ge 46, 3) := by decide +kernel
theorem dX9_inner_32 : decode cX9_inner 32 = .ok (.lload_n 3, 1) := by decide +kernel
theorem dX9_inner_33 : decode cX9_inner 33 = .ok (.aload_n 0, 1) := by decide +kernel
theorem dX9_inner_34 : decode cX9_inner 34 = .ok (.getfield 115, 3) := by decide +kernel
theorem dX9_inner_37 : decode cX9_inner 37 = .ok (.bipush 11, 2) := by decide +kernel
theorem dX9_inner_39 : decode cX9_inner 39 = .ok (.iload_n 1, 1) := by decide +kernel
theorem dX9_inner_40 : decode cX9_inner 40 = .ok (.imul, 1) := by decide +kernel
theorem dX9_inner_41 : decode cX9_inner 41 = .ok (.iload 5, 2) := by decide +kernel
theorem dX9_inner_43 : decode cX9_inner 43 = .ok (.iadd, 1) := by decide +kernel
theorem dX9_inner_44 : decode cX9_inner 44 = .ok (.laload, 1) := by decide +kernel
theorem dX9_inner_45 : decode cX9_inner 45 = .ok (.aload_n 0, 1) := by decide +kernel
theorem dX9_inner_46 : decode cX9_inner 46 = .ok (.getfield 115, 3) := by decide +kernel
theorem dX9_inner_49 : decode cX9_inner 49 = .ok (.bipush 11, 2) := by decide +kernel
theorem dX9_inner_51 : decode cX9_inner 51 = .ok (.iload_n 2, 1) := by decide +kernel
theorem dX9_inner_52 : decode cX9_inner 52 = .ok (.imul, 1) := by decide +kernel
theorem dX9_inner_53 : decode cX9_inner 53 = .ok (.iload 5, 2) := by decide +kernel
theorem dX9_inner_55 : decode cX9_inner 55 = .ok (.iadd, 1) := by decide +kernel
theorem dX9_inner_56 : decode cX9_inner 56 = .ok (.laload, 1) := by decide +kernel
theorem dX9_inner_57 : decode cX9_inner 57 = .ok (.lmul, 1) := by decide +kernel
theorem dX9_inner_58 : decode cX9_inner 58 = .ok (.aload_n 0, 1) := by decide +kernel
theorem dX9_inner_59 : decode cX9_inner 59 = .ok (.getfield 16, 3) := by decide +kernel
theorem dX9_inner_62 : decode cX9_inner 62 = .ok (.iload 5, 2) := by decide +kernel
theorem dX9_inner_64 : decode cX9_inner 64 = .ok (.iaload, 1) := by decide +kernel
theorem dX9_inner_65 : decode cX9_inner 65 = .ok (.i2l, 1) := by decide +kernel
theorem dX9_inner_66 : decode cX9_inner 66 = .ok (.lmul, 1) := by decide +kernel
theorem dX9_inner_67 : decode cX9_inner 67 = .ok (.ladd, 1) := by decide +kernel
theorem dX9_inner_68 : decode cX9_inner 68 = .ok (.lstore_n 3, 1) := by decide +kernel
theorem dX9_inner_69 : decode cX9_inner 69 = .ok (.iinc 5 1, 3) := by decide +kernel
theorem dX9_inner_72 : decode cX9_inner 72 = .ok (.goto (-49), 3) := by decide +kernel
theorem dX9_inner_75 : decode cX9_inner 75 = .ok (.lload_n 3, 1) := by decide +kernel
theorem dX9_inner_76 : decode cX9_inner 76 = .ok (.lreturn, 1) := by decide +kernel
theorem dX9_areWhole_0 : decode cX9_areWhole 0 = .ok (.iconst 0, 1) := by decide +kernel
theorem dX9_areWhole_1 : decode cX9_areWhole 1 = .ok (.istore 4, 2) := by decide +kernel
theorem dX9_areWhole_3 : decode cX9_areWhole 3 = .ok (.iload 4, 2) := by decide +kernel
theorem dX9_areWhole_5 : decode cX9_areWhole 5 = .ok (.aload_n 0, 1) := by decide +kernel
theorem dX9_areWhole_6 : decode cX9_areWhole 6 = .ok (.getfield 153, 3) := by decide +kernel
theorem dX9_areWhole_9 : decode cX9_areWhole 9 = .ok (.if_icmp .ge 75, 3) := by decide +kernel
theorem dX9_areWhole_12 : decode cX9_areWhole 12 = .ok (.iload_n 2, 1) := by decide +kernel
theorem dX9_areWhole_13 : decode cX9_areWhole 13 = .ok (.ifCond .eq 16, 3) := by decide +kernel
theorem dX9_areWhole_16 : decode cX9_areWhole 16 = .ok (.aload_n 0, 1) := by decide +kernel
theorem dX9_areWhole_17 : decode cX9_areWhole 17 = .ok (.getfield 22, 3) := by decide +kernel
theorem dX9_areWhole_20 : decode cX9_areWhole 20 = .ok (.iload 4, 2) := by decide +kernel
theorem dX9_areWhole_22 : decode cX9_areWhole 22 = .ok (.baload, 1) := by decide +kernel
theorem dX9_areWhole_23 : decode cX9_areWhole 23 = .ok (.ifCond .ne 6, 3) := by decide +kernel
theorem dX9_areWhole_26 : decode cX9_areWhole 26 = .ok (.goto 52, 3) := by decide +kernel
theorem dX9_areWhole_29 : decode cX9_areWhole 29 = .ok (.iload_n 2, 1) := by decide +kernel
theorem dX9_areWhole_30 : decode cX9_areWhole 30 = .ok (.ifCond .eq 13, 3) := by decide +kernel
theorem dX9_areWhole_33 : decode cX9_areWhole 33 = .ok (.aload_n 0, 1) := by decide +kernel
theorem dX9_areWhole_34 : decode cX9_areWhole 34 = .ok (.iload_n 1, 1) := by decide +kernel
theorem dX9_areWhole_35 : decode cX9_areWhole 35 = .ok (.iload 4, 2) := by decide +kernel
theorem dX9_areWhole_37 : decode cX9_areWhole 37 = .ok (.invokevirtual 332, 3) := by decide +kernel
theorem dX9_areWhole_40 : decode cX9_areWhole 40 = .ok (.goto 10, 3) := by decide +kernel
theorem dX9_areWhole_43 : decode cX9_areWhole 43 = .ok (.aload_n 0, 1) := by decide +kernel
theorem dX9_areWhole_44 : decode cX9_areWhole 44 = .ok (.iload_n 1, 1) := by decide +kernel
theorem dX9_areWhole_45 : decode cX9_areWhole 45 = .ok (.iload 4, 2) := by decide +kernel
theorem dX9_areWhole_47 : decode cX9_areWhole 47 = .ok (.invokevirtual 328, 3) := by decide +kernel
theorem dX9_areWhole_50 : decode cX9_areWhole 50 = .ok (.lstore 5, 2) := by decide +kernel
theorem dX9_areWhole_52 : decode cX9_areWhole 52 = .ok (.lload 5, 2) := by decide +kernel
theorem dX9_areWhole_54 : decode cX9_areWhole 54 = .ok (.aload_n 0, 1) := by decide +kernel
theorem dX9_areWhole_55 : decode cX9_areWhole 55 = .ok (.getfield 166, 3) := by decide +kernel
theorem dX9_areWhole_58 : decode cX9_areWhole 58 = .ok (.i2l, 1) := by decide +kernel
theorem dX9_areWhole_59 : decode cX9_areWhole 59 = .ok (.lrem, 1) := by decide +kernel
theorem dX9_areWhole_60 : decode cX9_areWhole 60 = .ok (.lconst 0, 1) := by decide +kernel
theorem dX9_areWhole_61 : decode cX9_areWhole 61 = .ok (.lcmp, 1) := by decide +kernel
theorem dX9_areWhole_62 : decode cX9_areWhole 62 = .ok (.ifCond .ne 14, 3) := by decide +kernel
theorem dX9_areWhole_65 : decode cX9_areWhole 65 = .ok (.iload_n 3, 1) := by decide +kernel
theorem dX9_areWhole_66 : decode cX9_areWhole 66 = .ok (.ifCond .eq 12, 3) := by decide +kernel
theorem dX9_areWhole_69 : decode cX9_areWhole 69 = .ok (.lload 5, 2) := by decide +kernel
theorem dX9_areWhole_71 : decode cX9_areWhole 71 = .ok (.lconst 0, 1) := by decide +kernel
theorem dX9_areWhole_72 : decode cX9_areWhole 72 = .ok (.lcmp, 1) := by decide +kernel
theorem dX9_areWhole_73 : decode cX9_areWhole 73 = .ok (.ifCond .ge 5, 3) := by decide +kernel
theorem dX9_areWhole_76 : decode cX9_areWhole 76 = .ok (.iconst 0, 1) := by decide +kernel
theorem dX9_areWhole_77 : decode cX9_areWhole 77 = .ok (.ireturn, 1) := by decide +kernel
theorem dX9_areWhole_78 : decode cX9_areWhole 78 = .ok (.iinc 4 1, 3) := by decide +kernel
theorem dX9_areWhole_81 : decode cX9_areWhole 81 = .ok (.goto (-78), 3) := by decide +kernel
theorem dX9_areWhole_84 : decode cX9_areWhole 84 = .ok (.iconst 1, 1) := by decide +kernel
theorem dX9_areWhole_85 : decode cX9_areWhole 85 = .ok (.ireturn, 1) := by decide +kernel
theorem dX9_kind_0 : decode cX9_kind 0 = .ok (.iload_n 1, 1) := by decide +kernel
theorem dX9_kind_1 : decode cX9_kind 1 = .ok (.invokestatic 319, 3) := by decide +kernel
theorem dX9_kind_4 : decode cX9_kind 4 = .ok (.ifCond .eq 15, 3) := by decide +kernel
theorem dX9_kind_7 : decode cX9_kind 7 = .ok (.iload_n 2, 1) := by decide +kernel
theorem dX9_kind_8 : decode cX9_kind 8 = .ok (.i2l, 1) := by decide +kernel
theorem dX9_kind_9 : decode cX9_kind 9 = .ok (.lconst 0, 1) := by decide +kernel
theorem dX9_kind_10 : decode cX9_kind 10 = .ok (.ldc2_w 341, 3) := by decide +kernel
theorem dX9_kind_13 : decode cX9_kind 13 = .ok (.invokestatic 283, 3) := by decide +kernel
theorem dX9_kind_16 : decode cX9_kind 16 = .ok (.ifCond .ne 5, 3) := by decide +kernel
theorem dX9_kind_19 : decode cX9_kind 19 = .ok (.iconst (-1), 1) := by decide +kernel
theorem dX9_kind_20 : decode cX9_kind 20 = .ok (.ireturn, 1) := by decide +kernel
theorem dX9_kind_21 : decode cX9_kind 21 = .ok (.iload_n 2, 1) := by decide +kernel
theorem dX9_kind_22 : decode cX9_kind 22 = .ok (.ifCond .le 33, 3) := by decide +kernel
theorem dX9_kind_25 : decode cX9_kind 25 = .ok (.aload_n 0, 1) := by decide +kernel
theorem dX9_kind_26 : decode cX9_kind 26 = .ok (.iload_n 1, 1) := by decide +kernel
theorem dX9_kind_27 : decode cX9_kind 27 = .ok (.iload_n 2, 1) := by decide +kernel
theorem dX9_kind_28 : decode cX9_kind 28 = .ok (.iconst 2, 1) := by decide +kernel
theorem dX9_kind_29 : decode cX9_kind 29 = .ok (.if_icmp .le 7, 3) := by decide +kernel
theorem dX9_kind_32 : decode cX9_kind 32 = .ok (.iconst 1, 1) := by decide +kernel
theorem dX9_kind_33 : decode cX9_kind 33 = .ok (.goto 4, 3) := by decide +kernel
theorem dX9_kind_36 : decode cX9_kind 36 = .ok (.iconst 0, 1) := by decide +kernel
theorem dX9_kind_37 : decode cX9_kind 37 = .ok (.iload_n 2, 1) := by decide +kernel
theorem dX9_kind_38 : decode cX9_kind 38 = .ok (.iconst 2, 1) := by decide +kernel
theorem dX9_kind_39 : decode cX9_kind 39 = .ok (.irem, 1) := by decide +kernel
theorem dX9_kind_40 : decode cX9_kind 40 = .ok (.ifCond .ne 7, 3) := by decide +kernel
theorem dX9_kind_43 : decode cX9_kind 43 = .ok (.iconst 1, 1) := by decide +kernel
theorem dX9_kind_44 : decode cX9_kind 44 = .ok (.goto 4, 3) := by decide +kernel
theorem dX9_kind_47 : decode cX9_kind 47 = .ok (.iconst 0, 1) := by decide +kernel
theorem dX9_kind_48 : decode cX9_kind 48 = .ok (.invokevirtual 343, 3) := by decide +kernel
theorem dX9_kind_51 : decode cX9_kind 51 = .ok (.invokestatic 187, 3) := by decide +kernel
theorem dX9_kind_54 : decode cX9_kind 54 = .ok (.ireturn, 1) := by decide +kernel
theorem dX9_kind_55 : decode cX9_kind 55 = .ok (.iconst 1, 1) := by decide +kernel
theorem dX9_kind_56 : decode cX9_kind 56 = .ok (.istore_n 3, 1) := by decide +kernel
theorem dX9_kind_57 : decode cX9_kind 57 = .ok (.iconst 0, 1) := by decide +kernel
theorem dX9_kind_58 : decode cX9_kind 58 = .ok (.istore 4, 2) := by decide +kernel
theorem dX9_kind_60 : decode cX9_kind 60 = .ok (.iload 4, 2) := by decide +kernel
theorem dX9_kind_62 : decode cX9_kind 62 = .ok (.aload_n 0, 1) := by decide +kernel
theorem dX9_kind_63 : decode cX9_kind 63 = .ok (.getfield 153, 3) := by decide +kernel
theorem dX9_kind_66 : decode cX9_kind 66 = .ok (.if_icmp .ge 46, 3) := by decide +kernel
theorem dX9_kind_69 : decode cX9_kind 69 = .ok (.iload_n 3, 1) := by decide +kernel
theorem dX9_kind_70 : decode cX9_kind 70 = .ok (.ifCond .eq 34, 3) := by decide +kernel
theorem dX9_kind_73 : decode cX9_kind 73 = .ok (.aload_n 0, 1) := by decide +kernel
theorem dX9_kind_74 : decode cX9_kind 74 = .ok (.getfield 26, 3) := by decide +kernel
theorem dX9_kind_77 : decode cX9_kind 77 = .ok (.iload 4, 2) := by decide +kernel
theorem dX9_kind_79 : decode cX9_kind 79 = .ok (.baload, 1) := by decide +kernel
theorem dX9_kind_80 : decode cX9_kind 80 = .ok (.ifCond .ne 20, 3) := by decide +kernel
theorem dX9_kind_83 : decode cX9_kind 83 = .ok (.aload_n 0, 1) := by decide +kernel
theorem dX9_kind_84 : decode cX9_kind 84 = .ok (.getfield 115, 3) := by decide +kernel
theorem dX9_kind_87 : decode cX9_kind 87 = .ok (.bipush 11, 2) := by decide +kernel
theorem dX9_kind_89 : decode cX9_kind 89 = .ok (.iload_n 1, 1) := by decide +kernel
theorem dX9_kind_90 : decode cX9_kind 90 = .ok (.imul, 1) := by decide +kernel
theorem dX9_kind_91 : decode cX9_kind 91 = .ok (.iload 4, 2) := by decide +kernel
theorem dX9_kind_93 : decode cX9_kind 93 = .ok (.iadd, 1) := by decide +kernel
theorem dX9_kind_94 : decode cX9_kind 94 = .ok (.laload, 1) := by decide +kernel
theorem dX9_kind_95 : decode cX9_kind 95 = .ok (.lconst 0, 1) := by decide +kernel
theorem dX9_kind_96 : decode cX9_kind 96 = .ok (.lcmp, 1) := by decide +kernel
theorem dX9_kind_97 : decode cX9_kind 97 = .ok (.ifCond .ne 7, 3) := by decide +kernel
theorem dX9_kind_100 : decode cX9_kind 100 = .ok (.iconst 1, 1) := by decide +kernel
theorem dX9_kind_101 : decode cX9_kind 101 = .ok (.goto 4, 3) := by decide +kernel
theorem dX9_kind_104 : decode cX9_kind 104 = .ok (.iconst 0, 1) := by decide +kernel
theorem dX9_kind_105 : decode cX9_kind 105 = .ok (.istore_n 3, 1) := by decide +kernel
theorem dX9_kind_106 : decode cX9_kind 106 = .ok (.iinc 4 1, 3) := by decide +kernel
theorem dX9_kind_109 : decode cX9_kind 109 = .ok (.goto (-49), 3) := by decide +kernel
theorem dX9_kind_112 : decode cX9_kind 112 = .ok (.iload_n 3, 1) := by decide +kernel
theorem dX9_kind_113 : decode cX9_kind 113 = .ok (.invokestatic 187, 3) := by decide +kernel
theorem dX9_kind_116 : decode cX9_kind 116 = .ok (.ireturn, 1) := by decide +kernel
theorem dX9_cut_0 : decode cX9_cut 0 = .ok (.iload_n 1, 1) := by decide +kernel
theorem dX9_cut_1 : decode cX9_cut 1 = .ok (.invokestatic 319, 3) := by decide +kernel
theorem dX9_cut_4 : decode cX9_cut 4 = .ok (.ifCond .eq 36, 3) := by decide +kernel
theorem dX9_cut_7 : decode cX9_cut 7 = .ok (.iload_n 3, 1) := by decide +kernel
theorem dX9_cut_8 : decode cX9_cut 8 = .ok (.invokestatic 319, 3) := by decide +kernel
theorem dX9_cut_11 : decode cX9_cut 11 = .ok (.ifCond .eq 29, 3) := by decide +kernel
theorem dX9_cut_14 : decode cX9_cut 14 = .ok (.iload_n 2, 1) := by decide +kernel
theorem dX9_cut_15 : decode cX9_cut 15 = .ok (.i2l, 1) := by decide +kernel
theorem dX9_cut_16 : decode cX9_cut 16 = .ok (.lconst 0, 1) := by decide +kernel
theorem dX9_cut_17 : decode cX9_cut 17 = .ok (.aload_n 0, 1) := by decide +kernel
theorem dX9_cut_18 : decode cX9_cut 18 = .ok (.getfield 199, 3) := by decide +kernel
theorem dX9_cut_21 : decode cX9_cut 21 = .ok (.iconst 1, 1) := by decide +kernel
theorem dX9_cut_22 : decode cX9_cut 22 = .ok (.isub, 1) := by decide +kernel
theorem dX9_cut_23 : decode cX9_cut 23 = .ok (.i2l, 1) := by decide +kernel
theorem dX9_cut_24 : decode cX9_cut 24 = .ok (.invokestatic 283, 3) := by decide +kernel
theorem dX9_cut_27 : decode cX9_cut 27 = .ok (.ifCond .eq 13, 3) := by decide +kernel
theorem dX9_cut_30 : decode cX9_cut 30 = .ok (.aload_n 0, 1) := by decide +kernel
theorem dX9_cut_31 : decode cX9_cut 31 = .ok (.iload_n 1, 1) := by decide +kernel
theorem dX9_cut_32 : decode cX9_cut 32 = .ok (.iconst 0, 1) := by decide +kernel
theorem dX9_cut_33 : decode cX9_cut 33 = .ok (.iconst 0, 1) := by decide +kernel
theorem dX9_cut_34 : decode cX9_cut 34 = .ok (.invokevirtual 343, 3) := by decide +kernel
theorem dX9_cut_37 : decode cX9_cut 37 = .ok (.ifCond .ne 5, 3) := by decide +kernel
theorem dX9_cut_40 : decode cX9_cut 40 = .ok (.iconst (-1), 1) := by decide +kernel
theorem dX9_cut_41 : decode cX9_cut 41 = .ok (.ireturn, 1) := by decide +kernel
theorem dX9_cut_42 : decode cX9_cut 42 = .ok (.iconst 0, 1) := by decide +kernel
theorem dX9_cut_43 : decode cX9_cut 43 = .ok (.istore 4, 2) := by decide +kernel
theorem dX9_cut_45 : decode cX9_cut 45 = .ok (.iload 4, 2) := by decide +kernel
theorem dX9_cut_47 : decode cX9_cut 47 = .ok (.aload_n 0, 1) := by decide +kernel
theorem dX9_cut_48 : decode cX9_cut 48 = .ok (.getfield 153, 3) := by decide +kernel
theorem dX9_cut_51 : decode cX9_cut 51 = .ok (.if_icmp .ge 17, 3) := by decide +kernel
theorem dX9_cut_54 : decode cX9_cut 54 = .ok (.aload_n 0, 1) := by decide +kernel
theorem dX9_cut_55 : decode cX9_cut 55 = .ok (.getfield 118, 3) := by decide +kernel
theorem dX9_cut_58 : decode cX9_cut 58 = .ok (.iload 4, 2) := by decide +kernel
theorem dX9_cut_60 : decode cX9_cut 60 = .ok (.lconst 0, 1) := by decide +kernel
theorem dX9_cut_61 : decode cX9_cut 61 = .ok (.lastore, 1) := by decide +kernel
theorem dX9_cut_62 : decode cX9_cut 62 = .ok (.iinc 4 1, 3) := by decide +kernel
theorem dX9_cut_65 : decode cX9_cut 65 = .ok (.goto (-20), 3) := by decide +kernel
theorem dX9_cut_68 : decode cX9_cut 68 = .ok (.iconst 0, 1) := by decide +kernel
theorem dX9_cut_69 : decode cX9_cut 69 = .ok (.istore 4, 2) := by decide +kernel
theorem dX9_cut_71 : decode cX9_cut 71 = .ok (.iload 4, 2) := by decide +kernel
theorem dX9_cut_73 : decode cX9_cut 73 = .ok (.aload_n 0, 1) := by decide +kernel
theorem dX9_cut_74 : decode cX9_cut 74 = .ok (.getfield 153, 3) := by decide +kernel
theorem dX9_cut_77 : decode cX9_cut 77 = .ok (.if_icmp .ge 83, 3) := by decide +kernel
theorem dX9_cut_80 : decode cX9_cut 80 = .ok (.aload_n 0, 1) := by decide +kernel
theorem dX9_cut_81 : decode cX9_cut 81 = .ok (.getfield 47, 3) := by decide +kernel
theorem dX9_cut_84 : decode cX9_cut 84 = .ok (.iload 4, 2) := by decide +kernel
theorem dX9_cut_86 : decode cX9_cut 86 = .ok (.iaload, 1) := by decide +kernel
theorem dX9_cut_87 : decode cX9_cut 87 = .ok (.iload_n 2, 1) := by decide +kernel
theorem dX9_cut_88 : decode cX9_cut 88 = .ok (.if_icmp .eq 6, 3) := by decide +kernel
theorem dX9_cut_91 : decode cX9_cut 91 = .ok (.goto 63, 3) := by decide +kernel
theorem dX9_cut_94 : decode cX9_cut 94 = .ok (.aload_n 0, 1) := by decide +kernel
theorem dX9_cut_95 : decode cX9_cut 95 = .ok (.iload_n 1, 1) := by decide +kernel
theorem dX9_cut_96 : decode cX9_cut 96 = .ok (.iload 4, 2) := by decide +kernel
theorem dX9_cut_98 : decode cX9_cut 98 = .ok (.invokevirtual 328, 3) := by decide +kernel
theorem dX9_cut_101 : decode cX9_cut 101 = .ok (.aload_n 0, 1) := by decide +kernel
theorem dX9_cut_102 : decode cX9_cut 102 = .ok (.getfield 166, 3) := by decide +kernel
theorem dX9_cut_105 : decode cX9_cut 105 = .ok (.i2l, 1) := by decide +kernel
theorem dX9_cut_106 : decode cX9_cut 106 = .ok (.ldiv, 1) := by decide +kernel
theorem dX9_cut_107 : decode cX9_cut 107 = .ok (.lstore 5, 2) := by decide +kernel
theorem dX9_cut_109 : decode cX9_cut 109 = .ok (.iconst 0, 1) := by decide +kernel
theorem dX9_cut_110 : decode cX9_cut 110 = .ok (.istore 7, 2) := by decide +kernel
theorem dX9_cut_112 : decode cX9_cut 112 = .ok (.iload 7, 2) := by decide +kernel
theorem dX9_cut_114 : decode cX9_cut 114 = .ok (.aload_n 0, 1) := by decide +kernel
theorem dX9_cut_115 : decode cX9_cut 115 = .ok (.getfield 153, 3) := by decide +kernel
theorem dX9_cut_118 : decode cX9_cut 118 = .ok (.if_icmp .ge 36, 3) := by decide +kernel
theorem dX9_cut_121 : decode cX9_cut 121 = .ok (.aload_n 0, 1) := by decide +kernel
theorem dX9_cut_122 : decode cX9_cut 122 = .ok (.getfield 118, 3) := by decide +kernel
theorem dX9_cut_125 : decode cX9_cut 125 = .ok (.iload 7, 2) := by decide +kernel
theorem dX9_cut_127 : decode cX9_cut 127 = .ok (.dup2, 1) := by decide +kernel
theorem dX9_cut_128 : decode cX9_cut 128 = .ok (.laload, 1) := by decide +kernel
theorem dX9_cut_129 : decode cX9_cut 129 = .ok (.lload 5, 2) := by decide +kernel
theorem dX9_cut_131 : decode cX9_cut 131 = .ok (.aload_n 0, 1) := by decide +kernel
theorem dX9_cut_132 : decode cX9_cut 132 = .ok (.getfield 38, 3) := by decide +kernel
theorem dX9_cut_135 : decode cX9_cut 135 = .ok (.bipush 11, 2) := by decide +kernel
theorem dX9_cut_137 : decode cX9_cut 137 = .ok (.iload 4, 2) := by decide +kernel
theorem dX9_cut_139 : decode cX9_cut 139 = .ok (.imul, 1) := by decide +kernel
theorem dX9_cut_140 : decode cX9_cut 140 = .ok (.iload 7, 2) := by decide +kernel
theorem dX9_cut_142 : decode cX9_cut 142 = .ok (.iadd, 1) := by decide +kernel
theorem dX9_cut_143 : decode cX9_cut 143 = .ok (.iaload, 1) := by decide +kernel
theorem dX9_cut_144 : decode cX9_cut 144 = .ok (.i2l, 1) := by decide +kernel
theorem dX9_cut_145 : decode cX9_cut 145 = .ok (.lmul, 1) := by decide +kernel
theorem dX9_cut_146 : decode cX9_cut 146 = .ok (.ladd, 1) := by decide +kernel
theorem dX9_cut_147 : decode cX9_cut 147 = .ok (.lastore, 1) := by decide +kernel
theorem dX9_cut_148 : decode cX9_cut 148 = .ok (.iinc 7 1, 3) := by decide +kernel
theorem dX9_cut_151 : decode cX9_cut 151 = .ok (.goto (-39), 3) := by decide +kernel
theorem dX9_cut_154 : decode cX9_cut 154 = .ok (.iinc 4 1, 3) := by decide +kernel
theorem dX9_cut_157 : decode cX9_cut 157 = .ok (.goto (-86), 3) := by decide +kernel
theorem dX9_cut_160 : decode cX9_cut 160 = .ok (.iconst 0, 1) := by decide +kernel
theorem dX9_cut_161 : decode cX9_cut 161 = .ok (.istore 4, 2) := by decide +kernel
theorem dX9_cut_163 : decode cX9_cut 163 = .ok (.iload 4, 2) := by decide +kernel
theorem dX9_cut_165 : decode cX9_cut 165 = .ok (.aload_n 0, 1) := by decide +kernel
theorem dX9_cut_166 : decode cX9_cut 166 = .ok (.getfield 153, 3) := by decide +kernel
theorem dX9_cut_169 : decode cX9_cut 169 = .ok (.if_icmp .ge 28, 3) := by decide +kernel
theorem dX9_cut_172 : decode cX9_cut 172 = .ok (.aload_n 0, 1) := by decide +kernel
theorem dX9_cut_173 : decode cX9_cut 173 = .ok (.getfield 115, 3) := by decide +kernel
theorem dX9_cut_176 : decode cX9_cut 176 = .ok (.bipush 11, 2) := by decide +kernel
theorem dX9_cut_178 : decode cX9_cut 178 = .ok (.iload_n 3, 1) := by decide +kernel
theorem dX9_cut_179 : decode cX9_cut 179 = .ok (.imul, 1) := by decide +kernel
theorem dX9_cut_180 : decode cX9_cut 180 = .ok (.iload 4, 2) := by decide +kernel
theorem dX9_cut_182 : decode cX9_cut 182 = .ok (.iadd, 1) := by decide +kernel
theorem dX9_cut_183 : decode cX9_cut 183 = .ok (.aload_n 0, 1) := by decide +kernel
theorem dX9_cut_184 : decode cX9_cut 184 = .ok (.getfield 118, 3) := by decide +kernel
theorem dX9_cut_187 : decode cX9_cut 187 = .ok (.iload 4, 2) := by decide +kernel
theorem dX9_cut_189 : decode cX9_cut 189 = .ok (.laload, 1) := by decide +kernel
theorem dX9_cut_190 : decode cX9_cut 190 = .ok (.lastore, 1) := by decide +kernel
theorem dX9_cut_191 : decode cX9_cut 191 = .ok (.iinc 4 1, 3) := by decide +kernel
theorem dX9_cut_194 : decode cX9_cut 194 = .ok (.goto (-31), 3) := by decide +kernel
theorem dX9_cut_197 : decode cX9_cut 197 = .ok (.iconst 0, 1) := by decide +kernel
theorem dX9_cut_198 : decode cX9_cut 198 = .ok (.ireturn, 1) := by decide +kernel
theorem dX9_four_0 : decode cX9_four 0 = .ok (.bipush 24, 2) := by decide +kernel
theorem dX9_four_2 : decode cX9_four 2 = .ok (.istore_n 2, 1) := by decide +kernel
theorem dX9_four_3 : decode cX9_four 3 = .ok (.iload_n 2, 1) := by decide +kernel
theorem dX9_four_4 : decode cX9_four 4 = .ok (.ifCond .lt 35, 3) := by decide +kernel
theorem dX9_four_7 : decode cX9_four 7 = .ok (.aload_n 0, 1) := by decide +kernel
theorem dX9_four_8 : decode cX9_four 8 = .ok (.getfield 121, 3) := by decide +kernel
theorem dX9_four_11 : decode cX9_four 11 = .ok (.aload_n 0, 1) := by decide +kernel
theorem dX9_four_12 : decode cX9_four 12 = .ok (.getfield 347, 3) := by decide +kernel
theorem dX9_four_15 : decode cX9_four 15 = .ok (.iload_n 1, 1) := by decide +kernel
theorem dX9_four_16 : decode cX9_four 16 = .ok (.iload_n 2, 1) := by decide +kernel
theorem dX9_four_17 : decode cX9_four 17 = .ok (.ishr, 1) := by decide +kernel
theorem dX9_four_18 : decode cX9_four 18 = .ok (.sipush 255, 3) := by decide +kernel
theorem dX9_four_21 : decode cX9_four 21 = .ok (.iand, 1) := by decide +kernel
theorem dX9_four_22 : decode cX9_four 22 = .ok (.iastore, 1) := by decide +kernel
theorem dX9_four_23 : decode cX9_four 23 = .ok (.aload_n 0, 1) := by decide +kernel
theorem dX9_four_24 : decode cX9_four 24 = .ok (.dup, 1) := by decide +kernel
theorem dX9_four_25 : decode cX9_four 25 = .ok (.getfield 347, 3) := by decide +kernel
theorem dX9_four_28 : decode cX9_four 28 = .ok (.iconst 1, 1) := by decide +kernel
theorem dX9_four_29 : decode cX9_four 29 = .ok (.iadd, 1) := by decide +kernel
theorem dX9_four_30 : decode cX9_four 30 = .ok (.putfield 347, 3) := by decide +kernel
theorem dX9_four_33 : decode cX9_four 33 = .ok (.iinc 2 (-8), 3) := by decide +kernel
theorem dX9_four_36 : decode cX9_four 36 = .ok (.goto (-33), 3) := by decide +kernel
theorem dX9_four_39 : decode cX9_four 39 = .ok (.return_, 1) := by decide +kernel
theorem dX9_feed_0 : decode cX9_feed 0 = .ok (.aload_n 0, 1) := by decide +kernel
theorem dX9_feed_1 : decode cX9_feed 1 = .ok (.getfield 347, 3) := by decide +kernel
theorem dX9_feed_4 : decode cX9_feed 4 = .ok (.bipush 20, 2) := by decide +kernel
theorem dX9_feed_6 : decode cX9_feed 6 = .ok (.iadd, 1) := by decide +kernel
theorem dX9_feed_7 : decode cX9_feed 7 = .ok (.sipush 200, 3) := by decide +kernel
theorem dX9_feed_10 : decode cX9_feed 10 = .ok (.if_icmp .le 5, 3) := by decide +kernel
theorem dX9_feed_13 : decode cX9_feed 13 = .ok (.iconst (-1), 1) := by decide +kernel
theorem dX9_feed_14 : decode cX9_feed 14 = .ok (.ireturn, 1) := by decide +kernel
theorem dX9_feed_15 : decode cX9_feed 15 = .ok (.aload_n 0, 1) := by decide +kernel
theorem dX9_feed_16 : decode cX9_feed 16 = .ok (.iload_n 1, 1) := by decide +kernel
theorem dX9_feed_17 : decode cX9_feed 17 = .ok (.invokevirtual 350, 3) := by decide +kernel
theorem dX9_feed_20 : decode cX9_feed 20 = .ok (.aload_n 0, 1) := by decide +kernel
theorem dX9_feed_21 : decode cX9_feed 21 = .ok (.iload_n 2, 1) := by decide +kernel
theorem dX9_feed_22 : decode cX9_feed 22 = .ok (.invokevirtual 350, 3) := by decide +kernel
theorem dX9_feed_25 : decode cX9_feed 25 = .ok (.aload_n 0, 1) := by decide +kernel
theorem dX9_feed_26 : decode cX9_feed 26 = .ok (.iload_n 3, 1) := by decide +kernel
theorem dX9_feed_27 : decode cX9_feed 27 = .ok (.invokevirtual 350, 3) := by decide +kernel
theorem dX9_feed_30 : decode cX9_feed 30 = .ok (.aload_n 0, 1) := by decide +kernel
theorem dX9_feed_31 : decode cX9_feed 31 = .ok (.iload 4, 2) := by decide +kernel
theorem dX9_feed_33 : decode cX9_feed 33 = .ok (.invokevirtual 350, 3) := by decide +kernel
theorem dX9_feed_36 : decode cX9_feed 36 = .ok (.aload_n 0, 1) := by decide +kernel
theorem dX9_feed_37 : decode cX9_feed 37 = .ok (.iload 5, 2) := by decide +kernel
theorem dX9_feed_39 : decode cX9_feed 39 = .ok (.invokevirtual 350, 3) := by decide +kernel
theorem dX9_feed_42 : decode cX9_feed 42 = .ok (.aload_n 0, 1) := by decide +kernel
theorem dX9_feed_43 : decode cX9_feed 43 = .ok (.getfield 347, 3) := by decide +kernel
theorem dX9_feed_46 : decode cX9_feed 46 = .ok (.ireturn, 1) := by decide +kernel
theorem dX9_end_0 : decode cX9_end 0 = .ok (.iload_n 1, 1) := by decide +kernel
theorem dX9_end_1 : decode cX9_end 1 = .ok (.i2l, 1) := by decide +kernel
theorem dX9_end_2 : decode cX9_end 2 = .ok (.lconst 0, 1) := by decide +kernel
theorem dX9_end_3 : decode cX9_end 3 = .ok (.aload_n 0, 1) := by decide +kernel
theorem dX9_end_4 : decode cX9_end 4 = .ok (.getfield 347, 3) := by decide +kernel
theorem dX9_end_7 : decode cX9_end 7 = .ok (.i2l, 1) := by decide +kernel
theorem dX9_end_8 : decode cX9_end 8 = .ok (.invokestatic 283, 3) := by decide +kernel
theorem dX9_end_11 : decode cX9_end 11 = .ok (.ifCond .ne 5, 3) := by decide +kernel
theorem dX9_end_14 : decode cX9_end 14 = .ok (.iconst 0, 1) := by decide +kernel
theorem dX9_end_15 : decode cX9_end 15 = .ok (.ireturn, 1) := by decide +kernel
theorem dX9_end_16 : decode cX9_end 16 = .ok (.aload_n 0, 1) := by decide +kernel
theorem dX9_end_17 : decode cX9_end 17 = .ok (.iload_n 1, 1) := by decide +kernel
theorem dX9_end_18 : decode cX9_end 18 = .ok (.putfield 347, 3) := by decide +kernel
theorem dX9_end_21 : decode cX9_end 21 = .ok (.iconst 1, 1) := by decide +kernel
theorem dX9_end_22 : decode cX9_end 22 = .ok (.ireturn, 1) := by decide +kernel
theorem dX9_fault_0 : decode cX9_fault 0 = .ok (.iload_n 1, 1) := by decide +kernel
theorem dX9_fault_1 : decode cX9_fault 1 = .ok (.ifCond .ne 8, 3) := by decide +kernel
theorem dX9_fault_4 : decode cX9_fault 4 = .ok (.aload_n 0, 1) := by decide +kernel
theorem dX9_fault_5 : decode cX9_fault 5 = .ok (.getfield 356, 3) := by decide +kernel
theorem dX9_fault_8 : decode cX9_fault 8 = .ok (.ireturn, 1) := by decide +kernel
theorem dX9_fault_9 : decode cX9_fault 9 = .ok (.iload_n 1, 1) := by decide +kernel
theorem dX9_fault_10 : decode cX9_fault 10 = .ok (.iconst 1, 1) := by decide +kernel
theorem dX9_fault_11 : decode cX9_fault 11 = .ok (.if_icmp .ne 8, 3) := by decide +kernel
theorem dX9_fault_14 : decode cX9_fault 14 = .ok (.aload_n 0, 1) := by decide +kernel
theorem dX9_fault_15 : decode cX9_fault 15 = .ok (.getfield 124, 3) := by decide +kernel
theorem dX9_fault_18 : decode cX9_fault 18 = .ok (.ireturn, 1) := by decide +kernel
theorem dX9_fault_19 : decode cX9_fault 19 = .ok (.iload_n 1, 1) := by decide +kernel
theorem dX9_fault_20 : decode cX9_fault 20 = .ok (.iconst 2, 1) := by decide +kernel
theorem dX9_fault_21 : decode cX9_fault 21 = .ok (.if_icmp .ne 8, 3) := by decide +kernel
theorem dX9_fault_24 : decode cX9_fault 24 = .ok (.aload_n 0, 1) := by decide +kernel
theorem dX9_fault_25 : decode cX9_fault 25 = .ok (.getfield 361, 3) := by decide +kernel
theorem dX9_fault_28 : decode cX9_fault 28 = .ok (.ireturn, 1) := by decide +kernel
theorem dX9_fault_29 : decode cX9_fault 29 = .ok (.iload_n 1, 1) := by decide +kernel
theorem dX9_fault_30 : decode cX9_fault 30 = .ok (.i2l, 1) := by decide +kernel
theorem dX9_fault_31 : decode cX9_fault 31 = .ok (.ldc2_w 432, 3) := by decide +kernel
theorem dX9_fault_34 : decode cX9_fault 34 = .ok (.bipush 9, 2) := by decide +kernel
theorem dX9_fault_36 : decode cX9_fault 36 = .ok (.aload_n 0, 1) := by decide +kernel
theorem dX9_fault_37 : decode cX9_fault 37 = .ok (.getfield 361, 3) := by decide +kernel
theorem dX9_fault_40 : decode cX9_fault 40 = .ok (.iadd, 1) := by decide +kernel
theorem dX9_fault_41 : decode cX9_fault 41 = .ok (.i2l, 1) := by decide +kernel
theorem dX9_fault_42 : decode cX9_fault 42 = .ok (.invokestatic 283, 3) := by decide +kernel
theorem dX9_fault_45 : decode cX9_fault 45 = .ok (.ifCond .eq 15, 3) := by decide +kernel
theorem dX9_fault_48 : decode cX9_fault 48 = .ok (.aload_n 0, 1) := by decide +kernel
theorem dX9_fault_49 : decode cX9_fault 49 = .ok (.getfield 128, 3) := by decide +kernel
theorem dX9_fault_52 : decode cX9_fault 52 = .ok (.iload_n 1, 1) := by decide +kernel
theorem dX9_fault_53 : decode cX9_fault 53 = .ok (.bipush 10, 2) := by decide +kernel
theorem dX9_fault_55 : decode cX9_fault 55 = .ok (.isub, 1) := by decide +kernel
theorem dX9_fault_56 : decode cX9_fault 56 = .ok (.iaload, 1) := by decide +kernel
theorem dX9_fault_57 : decode cX9_fault 57 = .ok (.goto 4, 3) := by decide +kernel
theorem dX9_fault_60 : decode cX9_fault 60 = .ok (.iconst (-1), 1) := by decide +kernel
theorem dX9_fault_61 : decode cX9_fault 61 = .ok (.ireturn, 1) := by decide +kernel
theorem dX9_look_0 : decode cX9_look 0 = .ok (.iconst 0, 1) := by decide +kernel
theorem dX9_look_1 : decode cX9_look 1 = .ok (.istore_n 2, 1) := by decide +kernel
theorem dX9_look_2 : decode cX9_look 2 = .ok (.iconst 0, 1) := by decide +kernel
theorem dX9_look_3 : decode cX9_look 3 = .ok (.istore_n 3, 1) := by decide +kernel
theorem dX9_look_4 : decode cX9_look 4 = .ok (.iconst 0, 1) := by decide +kernel
theorem dX9_look_5 : decode cX9_look 5 = .ok (.istore 4, 2) := by decide +kernel
theorem dX9_look_7 : decode cX9_look 7 = .ok (.iload 4, 2) := by decide +kernel
theorem dX9_look_9 : decode cX9_look 9 = .ok (.bipush 66, 2) := by decide +kernel
theorem dX9_look_11 : decode cX9_look 11 = .ok (.if_icmp .ge 43, 3) := by decide +kernel
theorem dX9_look_14 : decode cX9_look 14 = .ok (.iload 4, 2) := by decide +kernel
theorem dX9_look_16 : decode cX9_look 16 = .ok (.bipush 11, 2) := by decide +kernel
theorem dX9_look_18 : decode cX9_look 18 = .ok (.irem, 1) := by decide +kernel
theorem dX9_look_19 : decode cX9_look 19 = .ok (.aload_n 0, 1) := by decide +kernel
theorem dX9_look_20 : decode cX9_look 20 = .ok (.getfield 153, 3) := by decide +kernel
theorem dX9_look_23 : decode cX9_look 23 = .ok (.if_icmp .ge 25, 3) := by decide +kernel
theorem dX9_look_26 : decode cX9_look 26 = .ok (.aload_n 0, 1) := by decide +kernel
theorem dX9_look_27 : decode cX9_look 27 = .ok (.getfield 115, 3) := by decide +kernel
theorem dX9_look_30 : decode cX9_look 30 = .ok (.iload 4, 2) := by decide +kernel
theorem dX9_look_32 : decode cX9_look 32 = .ok (.laload, 1) := by decide +kernel
theorem dX9_look_33 : decode cX9_look 33 = .ok (.lconst 0, 1) := by decide +kernel
theorem dX9_look_34 : decode cX9_look 34 = .ok (.lcmp, 1) := by decide +kernel
theorem dX9_look_35 : decode cX9_look 35 = .ok (.ifCond .eq 13, 3) := by decide +kernel
theorem dX9_look_38 : decode cX9_look 38 = .ok (.iload_n 2, 1) := by decide +kernel
theorem dX9_look_39 : decode cX9_look 39 = .ok (.iconst 1, 1) := by decide +kernel
theorem dX9_look_40 : decode cX9_look 40 = .ok (.iload 4, 2) := by decide +kernel
theorem dX9_look_42 : decode cX9_look 42 = .ok (.bipush 11, 2) := by decide +kernel
theorem dX9_look_44 : decode cX9_look 44 = .ok (.idiv, 1) := by decide +kernel
theorem dX9_look_45 : decode cX9_look 45 = .ok (.ishl, 1) := by decide +kernel
theorem dX9_look_46 : decode cX9_look 46 = .ok (.ior, 1) := by decide +kernel
theorem dX9_look_47 : decode cX9_look 47 = .ok (.istore_n 2, 1) := by decide +kernel
theorem dX9_look_48 : decode cX9_look 48 = .ok (.iinc 4 1, 3) := by decide +kernel
theorem dX9_look_51 : decode cX9_look 51 = .ok (.goto (-44), 3) := by decide +kernel
theorem dX9_look_54 : decode cX9_look 54 = .ok (.iconst 0, 1) := by decide +kernel
theorem dX9_look_55 : decode cX9_look 55 = .ok (.istore 4, 2) := by decide +kernel
theorem dX9_look_57 : decode cX9_look 57 = .ok (.iload 4, 2) := by decide +kernel
theorem dX9_look_59 : decode cX9_look 59 = .ok (.aload_n 0, 1) := by decide +kernel
theorem dX9_look_60 : decode cX9_look 60 = .ok (.getfield 199, 3) := by decide +kernel
theorem dX9_look_63 : decode cX9_look 63 = .ok (.if_icmp .ge 35, 3) := by decide +kernel
theorem dX9_look_66 : decode cX9_look 66 = .ok (.iload_n 3, 1) := by decide +kernel
theorem dX9_look_67 : decode cX9_look 67 = .ok (.aload_n 0, 1) := by decide +kernel
theorem dX9_look_68 : decode cX9_look 68 = .ok (.getfield 41, 3) := by decide +kernel
theorem dX9_look_71 : decode cX9_look 71 = .ok (.aload_n 0, 1) := by decide +kernel
theorem dX9_look_72 : decode cX9_look 72 = .ok (.getfield 50, 3) := by decide +kernel
theorem dX9_look_75 : decode cX9_look 75 = .ok (.iload 4, 2) := by decide +kernel
theorem dX9_look_77 : decode cX9_look 77 = .ok (.iaload, 1) := by decide +kernel
theorem dX9_look_78 : decode cX9_look 78 = .ok (.iaload, 1) := by decide +kernel
theorem dX9_look_79 : decode cX9_look 79 = .ok (.ifCond .ne 7, 3) := by decide +kernel
theorem dX9_look_82 : decode cX9_look 82 = .ok (.iconst 1, 1) := by decide +kernel
theorem dX9_look_83 : decode cX9_look 83 = .ok (.goto 4, 3) := by decide +kernel
theorem dX9_look_86 : decode cX9_look 86 = .ok (.iconst 0, 1) := by decide +kernel
theorem dX9_look_87 : decode cX9_look 87 = .ok (.invokestatic 187, 3) := by decide +kernel
theorem dX9_look_90 : decode cX9_look 90 = .ok (.iadd, 1) := by decide +kernel
theorem dX9_look_91 : decode cX9_look 91 = .ok (.istore_n 3, 1) := by decide +kernel
theorem dX9_look_92 : decode cX9_look 92 = .ok (.iinc 4 1, 3) := by decide +kernel
theorem dX9_look_95 : decode cX9_look 95 = .ok (.goto (-38), 3) := by decide +kernel
theorem dX9_look_98 : decode cX9_look 98 = .ok (.iload_n 1, 1) := by decide +kernel
theorem dX9_look_99 : decode cX9_look 99 = .ok (.tableswitch 88 0 8 #[49, 54, 59, 64, 69, 74, 79, 84, 86], 49) := by decide +kernel
theorem dX9_look_148 : decode cX9_look 148 = .ok (.aload_n 0, 1) := by decide +kernel
theorem dX9_look_149 : decode cX9_look 149 = .ok (.getfield 169, 3) := by decide +kernel
theorem dX9_look_152 : decode cX9_look 152 = .ok (.ireturn, 1) := by decide +kernel
theorem dX9_look_153 : decode cX9_look 153 = .ok (.aload_n 0, 1) := by decide +kernel
theorem dX9_look_154 : decode cX9_look 154 = .ok (.getfield 184, 3) := by decide +kernel
theorem dX9_look_157 : decode cX9_look 157 = .ok (.ireturn, 1) := by decide +kernel
theorem dX9_look_158 : decode cX9_look 158 = .ok (.aload_n 0, 1) := by decide +kernel
theorem dX9_look_159 : decode cX9_look 159 = .ok (.getfield 153, 3) := by decide +kernel
theorem dX9_look_162 : decode cX9_look 162 = .ok (.ireturn, 1) := by decide +kernel
theorem dX9_look_163 : decode cX9_look 163 = .ok (.aload_n 0, 1) := by decide +kernel
theorem dX9_look_164 : decode cX9_look 164 = .ok (.getfield 172, 3) := by decide +kernel
theorem dX9_look_167 : decode cX9_look 167 = .ok (.ireturn, 1) := by decide +kernel
theorem dX9_look_168 : decode cX9_look 168 = .ok (.aload_n 0, 1) := by decide +kernel
theorem dX9_look_169 : decode cX9_look 169 = .ok (.getfield 199, 3) := by decide +kernel
theorem dX9_look_172 : decode cX9_look 172 = .ok (.ireturn, 1) := by decide +kernel
theorem dX9_look_173 : decode cX9_look 173 = .ok (.aload_n 0, 1) := by decide +kernel
theorem dX9_look_174 : decode cX9_look 174 = .ok (.getfield 166, 3) := by decide +kernel
theorem dX9_look_177 : decode cX9_look 177 = .ok (.ireturn, 1) := by decide +kernel
theorem dX9_look_178 : decode cX9_look 178 = .ok (.aload_n 0, 1) := by decide +kernel
theorem dX9_look_179 : decode cX9_look 179 = .ok (.getfield 347, 3) := by decide +kernel
theorem dX9_look_182 : decode cX9_look 182 = .ok (.ireturn, 1) := by decide +kernel
theorem dX9_look_183 : decode cX9_look 183 = .ok (.iload_n 2, 1) := by decide +kernel
theorem dX9_look_184 : decode cX9_look 184 = .ok (.ireturn, 1) := by decide +kernel
theorem dX9_look_185 : decode cX9_look 185 = .ok (.iload_n 3, 1) := by decide +kernel
theorem dX9_look_186 : decode cX9_look 186 = .ok (.ireturn, 1) := by decide +kernel
theorem dX9_look_187 : decode cX9_look 187 = .ok (.iconst (-1), 1) := by decide +kernel
theorem dX9_look_188 : decode cX9_look 188 = .ok (.ireturn, 1) := by decide +kernel
