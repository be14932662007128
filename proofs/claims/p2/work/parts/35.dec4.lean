/-! instructions of the class, by program -/
theorem dX8_group_18 : decode cX8_group 18 = .ok (.if_icmp .eq 16, 3) := by decide +kernel
theorem dX8_group_21 : decode cX8_group 21 = .ok (.iload_n 2, 1) := by decide +kernel
theorem dX8_group_22 : decode cX8_group 22 = .ok (.iconst 5, 1) := by decide +kernel
theorem dX8_group_23 : decode cX8_group 23 = .ok (.if_icmp .eq 11, 3) := by decide +kernel
theorem dX8_group_26 : decode cX8_group 26 = .ok (.iload_n 2, 1) := by decide +kernel
theorem dX8_group_27 : decode cX8_group 27 = .ok (.bipush 7, 2) := by decide +kernel
theorem dX8_group_29 : decode cX8_group 29 = .ok (.if_icmp .eq 5, 3) := by decide +kernel
theorem dX8_group_32 : decode cX8_group 32 = .ok (.iconst (-1), 1) := by decide +kernel
theorem dX8_group_33 : decode cX8_group 33 = .ok (.ireturn, 1) := by decide +kernel
theorem dX8_group_34 : decode cX8_group 34 = .ok (.aload_n 0, 1) := by decide +kernel
theorem dX8_group_35 : decode cX8_group 35 = .ok (.getfield 11, 3) := by decide +kernel
theorem dX8_group_38 : decode cX8_group 38 = .ok (.iload_n 1, 1) := by decide +kernel
theorem dX8_group_39 : decode cX8_group 39 = .ok (.aaload, 1) := by decide +kernel
theorem dX8_group_40 : decode cX8_group 40 = .ok (.ifnonnull 17, 3) := by decide +kernel
theorem dX8_group_43 : decode cX8_group 43 = .ok (.aload_n 0, 1) := by decide +kernel
theorem dX8_group_44 : decode cX8_group 44 = .ok (.getfield 11, 3) := by decide +kernel
theorem dX8_group_47 : decode cX8_group 47 = .ok (.iload_n 1, 1) := by decide +kernel
theorem dX8_group_48 : decode cX8_group 48 = .ok (.new 9, 3) := by decide +kernel
theorem dX8_group_51 : decode cX8_group 51 = .ok (.dup, 1) := by decide +kernel
theorem dX8_group_52 : decode cX8_group 52 = .ok (.iload_n 1, 1) := by decide +kernel
theorem dX8_group_53 : decode cX8_group 53 = .ok (.invokespecial 37, 3) := by decide +kernel
theorem dX8_group_56 : decode cX8_group 56 = .ok (.aastore, 1) := by decide +kernel
theorem dX8_group_57 : decode cX8_group 57 = .ok (.aload_n 0, 1) := by decide +kernel
theorem dX8_group_58 : decode cX8_group 58 = .ok (.aload_n 0, 1) := by decide +kernel
theorem dX8_group_59 : decode cX8_group 59 = .ok (.getfield 11, 3) := by decide +kernel
theorem dX8_group_62 : decode cX8_group 62 = .ok (.iload_n 1, 1) := by decide +kernel
theorem dX8_group_63 : decode cX8_group 63 = .ok (.aaload, 1) := by decide +kernel
theorem dX8_group_64 : decode cX8_group 64 = .ok (.putfield 40, 3) := by decide +kernel
theorem dX8_group_67 : decode cX8_group 67 = .ok (.iload_n 1, 1) := by decide +kernel
theorem dX8_group_68 : decode cX8_group 68 = .ok (.iload_n 2, 1) := by decide +kernel
theorem dX8_group_69 : decode cX8_group 69 = .ok (.invokestatic 51, 3) := by decide +kernel
theorem dX8_group_72 : decode cX8_group 72 = .ok (.istore_n 3, 1) := by decide +kernel
theorem dX8_group_73 : decode cX8_group 73 = .ok (.aload_n 0, 1) := by decide +kernel
theorem dX8_group_74 : decode cX8_group 74 = .ok (.getfield 17, 3) := by decide +kernel
theorem dX8_group_77 : decode cX8_group 77 = .ok (.iload_n 3, 1) := by decide +kernel
theorem dX8_group_78 : decode cX8_group 78 = .ok (.aaload, 1) := by decide +kernel
theorem dX8_group_79 : decode cX8_group 79 = .ok (.ifnonnull 21, 3) := by decide +kernel
theorem dX8_group_82 : decode cX8_group 82 = .ok (.aload_n 0, 1) := by decide +kernel
theorem dX8_group_83 : decode cX8_group 83 = .ok (.getfield 17, 3) := by decide +kernel
theorem dX8_group_86 : decode cX8_group 86 = .ok (.iload_n 3, 1) := by decide +kernel
theorem dX8_group_87 : decode cX8_group 87 = .ok (.new 15, 3) := by decide +kernel
theorem dX8_group_90 : decode cX8_group 90 = .ok (.dup, 1) := by decide +kernel
theorem dX8_group_91 : decode cX8_group 91 = .ok (.aload_n 0, 1) := by decide +kernel
theorem dX8_group_92 : decode cX8_group 92 = .ok (.getfield 40, 3) := by decide +kernel
theorem dX8_group_95 : decode cX8_group 95 = .ok (.iload_n 2, 1) := by decide +kernel
theorem dX8_group_96 : decode cX8_group 96 = .ok (.invokespecial 44, 3) := by decide +kernel
theorem dX8_group_99 : decode cX8_group 99 = .ok (.aastore, 1) := by decide +kernel
theorem dX8_group_100 : decode cX8_group 100 = .ok (.aload_n 0, 1) := by decide +kernel
theorem dX8_group_101 : decode cX8_group 101 = .ok (.aload_n 0, 1) := by decide +kernel
theorem dX8_group_102 : decode cX8_group 102 = .ok (.getfield 17, 3) := by decide +kernel
theorem dX8_group_105 : decode cX8_group 105 = .ok (.iload_n 3, 1) := by decide +kernel
theorem dX8_group_106 : decode cX8_group 106 = .ok (.aaload, 1) := by decide +kernel
theorem dX8_group_107 : decode cX8_group 107 = .ok (.putfield 47, 3) := by decide +kernel
theorem dX8_group_110 : decode cX8_group 110 = .ok (.aload_n 0, 1) := by decide +kernel
theorem dX8_group_111 : decode cX8_group 111 = .ok (.getfield 60, 3) := by decide +kernel
theorem dX8_group_114 : decode cX8_group 114 = .ok (.aload_n 0, 1) := by decide +kernel
theorem dX8_group_115 : decode cX8_group 115 = .ok (.getfield 40, 3) := by decide +kernel
theorem dX8_group_118 : decode cX8_group 118 = .ok (.aload_n 0, 1) := by decide +kernel
theorem dX8_group_119 : decode cX8_group 119 = .ok (.getfield 47, 3) := by decide +kernel
theorem dX8_group_122 : decode cX8_group 122 = .ok (.invokevirtual 64, 3) := by decide +kernel
theorem dX8_group_125 : decode cX8_group 125 = .ok (.iconst 0, 1) := by decide +kernel
theorem dX8_group_126 : decode cX8_group 126 = .ok (.istore 4, 2) := by decide +kernel
theorem dX8_group_128 : decode cX8_group 128 = .ok (.iload 4, 2) := by decide +kernel
theorem dX8_group_130 : decode cX8_group 130 = .ok (.bipush 6, 2) := by decide +kernel
theorem dX8_group_132 : decode cX8_group 132 = .ok (.if_icmp .ge 20, 3) := by decide +kernel
theorem dX8_group_135 : decode cX8_group 135 = .ok (.aload_n 0, 1) := by decide +kernel
theorem dX8_group_136 : decode cX8_group 136 = .ok (.getfield 23, 3) := by decide +kernel
theorem dX8_group_139 : decode cX8_group 139 = .ok (.iload 4, 2) := by decide +kernel
theorem dX8_group_141 : decode cX8_group 141 = .ok (.aaload, 1) := by decide +kernel
theorem dX8_group_142 : decode cX8_group 142 = .ok (.lconst 0, 1) := by decide +kernel
theorem dX8_group_143 : decode cX8_group 143 = .ok (.invokestatic 68, 3) := by decide +kernel
theorem dX8_group_146 : decode cX8_group 146 = .ok (.iinc 4 1, 3) := by decide +kernel
theorem dX8_group_149 : decode cX8_group 149 = .ok (.goto (-21), 3) := by decide +kernel
theorem dX8_group_152 : decode cX8_group 152 = .ok (.aload_n 0, 1) := by decide +kernel
theorem dX8_group_153 : decode cX8_group 153 = .ok (.getfield 40, 3) := by decide +kernel
theorem dX8_group_156 : decode cX8_group 156 = .ok (.getfield 74, 3) := by decide +kernel
theorem dX8_group_159 : decode cX8_group 159 = .ok (.ireturn, 1) := by decide +kernel
theorem dX8_feed_0 : decode cX8_feed 0 = .ok (.aload_n 0, 1) := by decide +kernel
theorem dX8_feed_1 : decode cX8_feed 1 = .ok (.getfield 33, 3) := by decide +kernel
theorem dX8_feed_4 : decode cX8_feed 4 = .ok (.bipush 20, 2) := by decide +kernel
theorem dX8_feed_6 : decode cX8_feed 6 = .ok (.invokevirtual 78, 3) := by decide +kernel
theorem dX8_feed_9 : decode cX8_feed 9 = .ok (.ifCond .ne 5, 3) := by decide +kernel
theorem dX8_feed_12 : decode cX8_feed 12 = .ok (.iconst (-1), 1) := by decide +kernel
theorem dX8_feed_13 : decode cX8_feed 13 = .ok (.ireturn, 1) := by decide +kernel
theorem dX8_feed_14 : decode cX8_feed 14 = .ok (.aload_n 0, 1) := by decide +kernel
theorem dX8_feed_15 : decode cX8_feed 15 = .ok (.getfield 33, 3) := by decide +kernel
theorem dX8_feed_18 : decode cX8_feed 18 = .ok (.iload_n 1, 1) := by decide +kernel
theorem dX8_feed_19 : decode cX8_feed 19 = .ok (.invokevirtual 82, 3) := by decide +kernel
theorem dX8_feed_22 : decode cX8_feed 22 = .ok (.aload_n 0, 1) := by decide +kernel
theorem dX8_feed_23 : decode cX8_feed 23 = .ok (.getfield 33, 3) := by decide +kernel
theorem dX8_feed_26 : decode cX8_feed 26 = .ok (.iload_n 2, 1) := by decide +kernel
theorem dX8_feed_27 : decode cX8_feed 27 = .ok (.invokevirtual 82, 3) := by decide +kernel
theorem dX8_feed_30 : decode cX8_feed 30 = .ok (.aload_n 0, 1) := by decide +kernel
theorem dX8_feed_31 : decode cX8_feed 31 = .ok (.getfield 33, 3) := by decide +kernel
theorem dX8_feed_34 : decode cX8_feed 34 = .ok (.iload_n 3, 1) := by decide +kernel
theorem dX8_feed_35 : decode cX8_feed 35 = .ok (.invokevirtual 82, 3) := by decide +kernel
theorem dX8_feed_38 : decode cX8_feed 38 = .ok (.aload_n 0, 1) := by decide +kernel
theorem dX8_feed_39 : decode cX8_feed 39 = .ok (.getfield 33, 3) := by decide +kernel
theorem dX8_feed_42 : decode cX8_feed 42 = .ok (.iload 4, 2) := by decide +kernel
theorem dX8_feed_44 : decode cX8_feed 44 = .ok (.invokevirtual 82, 3) := by decide +kernel
theorem dX8_feed_47 : decode cX8_feed 47 = .ok (.aload_n 0, 1) := by decide +kernel
theorem dX8_feed_48 : decode cX8_feed 48 = .ok (.getfield 33, 3) := by decide +kernel
theorem dX8_feed_51 : decode cX8_feed 51 = .ok (.iload 5, 2) := by decide +kernel
theorem dX8_feed_53 : decode cX8_feed 53 = .ok (.invokevirtual 82, 3) := by decide +kernel
theorem dX8_feed_56 : decode cX8_feed 56 = .ok (.aload_n 0, 1) := by decide +kernel
theorem dX8_feed_57 : decode cX8_feed 57 = .ok (.getfield 33, 3) := by decide +kernel
theorem dX8_feed_60 : decode cX8_feed 60 = .ok (.getfield 85, 3) := by decide +kernel
theorem dX8_feed_63 : decode cX8_feed 63 = .ok (.ireturn, 1) := by decide +kernel
theorem dX8_end_0 : decode cX8_end 0 = .ok (.iload_n 1, 1) := by decide +kernel
theorem dX8_end_1 : decode cX8_end 1 = .ok (.ifCond .lt 14, 3) := by decide +kernel
theorem dX8_end_4 : decode cX8_end 4 = .ok (.iload_n 1, 1) := by decide +kernel
theorem dX8_end_5 : decode cX8_end 5 = .ok (.aload_n 0, 1) := by decide +kernel
theorem dX8_end_6 : decode cX8_end 6 = .ok (.getfield 33, 3) := by decide +kernel
theorem dX8_end_9 : decode cX8_end 9 = .ok (.getfield 85, 3) := by decide +kernel
theorem dX8_end_12 : decode cX8_end 12 = .ok (.if_icmp .le 5, 3) := by decide +kernel
theorem dX8_end_15 : decode cX8_end 15 = .ok (.iconst 0, 1) := by decide +kernel
theorem dX8_end_16 : decode cX8_end 16 = .ok (.ireturn, 1) := by decide +kernel
theorem dX8_end_17 : decode cX8_end 17 = .ok (.aload_n 0, 1) := by decide +kernel
theorem dX8_end_18 : decode cX8_end 18 = .ok (.getfield 33, 3) := by decide +kernel
theorem dX8_end_21 : decode cX8_end 21 = .ok (.iload_n 1, 1) := by decide +kernel
theorem dX8_end_22 : decode cX8_end 22 = .ok (.putfield 85, 3) := by decide +kernel
theorem dX8_end_25 : decode cX8_end 25 = .ok (.iconst 1, 1) := by decide +kernel
theorem dX8_end_26 : decode cX8_end 26 = .ok (.ireturn, 1) := by decide +kernel
theorem dX8_text_0 : decode cX8_text 0 = .ok (.bipush (-2), 2) := by decide +kernel
theorem dX8_text_2 : decode cX8_text 2 = .ok (.istore_n 2, 1) := by decide +kernel
theorem dX8_text_3 : decode cX8_text 3 = .ok (.iload_n 1, 1) := by decide +kernel
theorem dX8_text_4 : decode cX8_text 4 = .ok (.invokestatic 88, 3) := by decide +kernel
theorem dX8_text_7 : decode cX8_text 7 = .ok (.ifCond .ne 16, 3) := by decide +kernel
theorem dX8_text_10 : decode cX8_text 10 = .ok (.aload_n 0, 1) := by decide +kernel
theorem dX8_text_11 : decode cX8_text 11 = .ok (.getfield 60, 3) := by decide +kernel
theorem dX8_text_14 : decode cX8_text 14 = .ok (.getfield 91, 3) := by decide +kernel
theorem dX8_text_17 : decode cX8_text 17 = .ok (.invokevirtual 95, 3) := by decide +kernel
theorem dX8_text_20 : decode cX8_text 20 = .ok (.goto 42, 3) := by decide +kernel
theorem dX8_text_23 : decode cX8_text 23 = .ok (.aload_n 0, 1) := by decide +kernel
theorem dX8_text_24 : decode cX8_text 24 = .ok (.getfield 60, 3) := by decide +kernel
theorem dX8_text_27 : decode cX8_text 27 = .ok (.invokevirtual 100, 3) := by decide +kernel
theorem dX8_text_30 : decode cX8_text 30 = .ok (.ifCond .eq 30, 3) := by decide +kernel
theorem dX8_text_33 : decode cX8_text 33 = .ok (.aload_n 0, 1) := by decide +kernel
theorem dX8_text_34 : decode cX8_text 34 = .ok (.getfield 60, 3) := by decide +kernel
theorem dX8_text_37 : decode cX8_text 37 = .ok (.getfield 104, 3) := by decide +kernel
theorem dX8_text_40 : decode cX8_text 40 = .ok (.iconst 0, 1) := by decide +kernel
theorem dX8_text_41 : decode cX8_text 41 = .ok (.aaload, 1) := by decide +kernel
theorem dX8_text_42 : decode cX8_text 42 = .ok (.iconst 0, 1) := by decide +kernel
theorem dX8_text_43 : decode cX8_text 43 = .ok (.aload_n 0, 1) := by decide +kernel
theorem dX8_text_44 : decode cX8_text 44 = .ok (.getfield 23, 3) := by decide +kernel
theorem dX8_text_47 : decode cX8_text 47 = .ok (.iload_n 1, 1) := by decide +kernel
theorem dX8_text_48 : decode cX8_text 48 = .ok (.aaload, 1) := by decide +kernel
theorem dX8_text_49 : decode cX8_text 49 = .ok (.iconst 0, 1) := by decide +kernel
theorem dX8_text_50 : decode cX8_text 50 = .ok (.bipush 11, 2) := by decide +kernel
theorem dX8_text_52 : decode cX8_text 52 = .ok (.invokestatic 107, 3) := by decide +kernel
theorem dX8_text_55 : decode cX8_text 55 = .ok (.iconst 0, 1) := by decide +kernel
theorem dX8_text_56 : decode cX8_text 56 = .ok (.istore_n 2, 1) := by decide +kernel
theorem dX8_text_57 : decode cX8_text 57 = .ok (.goto 5, 3) := by decide +kernel
theorem dX8_text_60 : decode cX8_text 60 = .ok (.iconst (-1), 1) := by decide +kernel
theorem dX8_text_61 : decode cX8_text 61 = .ok (.istore_n 2, 1) := by decide +kernel
theorem dX8_text_62 : decode cX8_text 62 = .ok (.aload_n 0, 1) := by decide +kernel
theorem dX8_text_63 : decode cX8_text 63 = .ok (.getfield 33, 3) := by decide +kernel
theorem dX8_text_66 : decode cX8_text 66 = .ok (.iconst 0, 1) := by decide +kernel
theorem dX8_text_67 : decode cX8_text 67 = .ok (.putfield 85, 3) := by decide +kernel
theorem dX8_text_70 : decode cX8_text 70 = .ok (.iload_n 2, 1) := by decide +kernel
theorem dX8_text_71 : decode cX8_text 71 = .ok (.ireturn, 1) := by decide +kernel
theorem dX8_fault_0 : decode cX8_fault 0 = .ok (.aload_n 0, 1) := by decide +kernel
theorem dX8_fault_1 : decode cX8_fault 1 = .ok (.getfield 60, 3) := by decide +kernel
theorem dX8_fault_4 : decode cX8_fault 4 = .ok (.getfield 91, 3) := by decide +kernel
theorem dX8_fault_7 : decode cX8_fault 7 = .ok (.astore_n 2, 1) := by decide +kernel
theorem dX8_fault_8 : decode cX8_fault 8 = .ok (.iload_n 1, 1) := by decide +kernel
theorem dX8_fault_9 : decode cX8_fault 9 = .ok (.tableswitch 42 0 2 #[27, 32, 37], 27) := by decide +kernel
theorem dX8_fault_36 : decode cX8_fault 36 = .ok (.aload_n 2, 1) := by decide +kernel
theorem dX8_fault_37 : decode cX8_fault 37 = .ok (.getfield 113, 3) := by decide +kernel
theorem dX8_fault_40 : decode cX8_fault 40 = .ok (.ireturn, 1) := by decide +kernel
theorem dX8_fault_41 : decode cX8_fault 41 = .ok (.aload_n 2, 1) := by decide +kernel
theorem dX8_fault_42 : decode cX8_fault 42 = .ok (.getfield 116, 3) := by decide +kernel
theorem dX8_fault_45 : decode cX8_fault 45 = .ok (.ireturn, 1) := by decide +kernel
theorem dX8_fault_46 : decode cX8_fault 46 = .ok (.aload_n 2, 1) := by decide +kernel
theorem dX8_fault_47 : decode cX8_fault 47 = .ok (.getfield 119, 3) := by decide +kernel
theorem dX8_fault_50 : decode cX8_fault 50 = .ok (.ireturn, 1) := by decide +kernel
theorem dX8_fault_51 : decode cX8_fault 51 = .ok (.iload_n 1, 1) := by decide +kernel
theorem dX8_fault_52 : decode cX8_fault 52 = .ok (.bipush 10, 2) := by decide +kernel
theorem dX8_fault_54 : decode cX8_fault 54 = .ok (.if_icmp .lt 14, 3) := by decide +kernel
theorem dX8_fault_57 : decode cX8_fault 57 = .ok (.iload_n 1, 1) := by decide +kernel
theorem dX8_fault_58 : decode cX8_fault 58 = .ok (.bipush 10, 2) := by decide +kernel
theorem dX8_fault_60 : decode cX8_fault 60 = .ok (.isub, 1) := by decide +kernel
theorem dX8_fault_61 : decode cX8_fault 61 = .ok (.aload_n 2, 1) := by decide +kernel
theorem dX8_fault_62 : decode cX8_fault 62 = .ok (.getfield 119, 3) := by decide +kernel
theorem dX8_fault_65 : decode cX8_fault 65 = .ok (.if_icmp .lt 5, 3) := by decide +kernel
theorem dX8_fault_68 : decode cX8_fault 68 = .ok (.iconst (-1), 1) := by decide +kernel
theorem dX8_fault_69 : decode cX8_fault 69 = .ok (.ireturn, 1) := by decide +kernel
theorem dX8_fault_70 : decode cX8_fault 70 = .ok (.aload_n 2, 1) := by decide +kernel
theorem dX8_fault_71 : decode cX8_fault 71 = .ok (.getfield 122, 3) := by decide +kernel
theorem dX8_fault_74 : decode cX8_fault 74 = .ok (.iload_n 1, 1) := by decide +kernel
theorem dX8_fault_75 : decode cX8_fault 75 = .ok (.bipush 10, 2) := by decide +kernel
theorem dX8_fault_77 : decode cX8_fault 77 = .ok (.isub, 1) := by decide +kernel
theorem dX8_fault_78 : decode cX8_fault 78 = .ok (.iaload, 1) := by decide +kernel
theorem dX8_fault_79 : decode cX8_fault 79 = .ok (.ireturn, 1) := by decide +kernel
theorem dX8_partition_0 : decode cX8_partition 0 = .ok (.aload_n 0, 1) := by decide +kernel
theorem dX8_partition_1 : decode cX8_partition 1 = .ok (.iload_n 1, 1) := by decide +kernel
theorem dX8_partition_2 : decode cX8_partition 2 = .ok (.invokevirtual 126, 3) := by decide +kernel
theorem dX8_partition_5 : decode cX8_partition 5 = .ok (.ifCond .eq 8, 3) := by decide +kernel
theorem dX8_partition_8 : decode cX8_partition 8 = .ok (.iload_n 2, 1) := by decide +kernel
theorem dX8_partition_9 : decode cX8_partition 9 = .ok (.iconst (-1), 1) := by decide +kernel
theorem dX8_partition_10 : decode cX8_partition 10 = .ok (.if_icmp .ge 5, 3) := by decide +kernel
theorem dX8_partition_13 : decode cX8_partition 13 = .ok (.iconst (-1), 1) := by decide +kernel
theorem dX8_partition_14 : decode cX8_partition 14 = .ok (.ireturn, 1) := by decide +kernel
theorem dX8_partition_15 : decode cX8_partition 15 = .ok (.aload_n 0, 1) := by decide +kernel
theorem dX8_partition_16 : decode cX8_partition 16 = .ok (.getfield 40, 3) := by decide +kernel
theorem dX8_partition_19 : decode cX8_partition 19 = .ok (.getfield 129, 3) := by decide +kernel
theorem dX8_partition_22 : decode cX8_partition 22 = .ok (.iload_n 1, 1) := by decide +kernel
theorem dX8_partition_23 : decode cX8_partition 23 = .ok (.aaload, 1) := by decide +kernel
theorem dX8_partition_24 : decode cX8_partition 24 = .ok (.astore_n 3, 1) := by decide +kernel
theorem dX8_partition_25 : decode cX8_partition 25 = .ok (.iload_n 2, 1) := by decide +kernel
theorem dX8_partition_26 : decode cX8_partition 26 = .ok (.iconst (-1), 1) := by decide +kernel
theorem dX8_partition_27 : decode cX8_partition 27 = .ok (.if_icmp .ne 10, 3) := by decide +kernel
theorem dX8_partition_30 : decode cX8_partition 30 = .ok (.aload_n 3, 1) := by decide +kernel
theorem dX8_partition_31 : decode cX8_partition 31 = .ok (.getfield 133, 3) := by decide +kernel
theorem dX8_partition_34 : decode cX8_partition 34 = .ok (.goto 11, 3) := by decide +kernel
theorem dX8_partition_37 : decode cX8_partition 37 = .ok (.aload_n 3, 1) := by decide +kernel
theorem dX8_partition_38 : decode cX8_partition 38 = .ok (.getfield 138, 3) := by decide +kernel
theorem dX8_partition_41 : decode cX8_partition 41 = .ok (.iload_n 2, 1) := by decide +kernel
theorem dX8_partition_42 : decode cX8_partition 42 = .ok (.invokestatic 141, 3) := by decide +kernel
theorem dX8_partition_45 : decode cX8_partition 45 = .ok (.ireturn, 1) := by decide +kernel
theorem dX8_of_0 : decode cX8_of 0 = .ok (.aload_n 0, 1) := by decide +kernel
theorem dX8_of_1 : decode cX8_of 1 = .ok (.iload_n 1, 1) := by decide +kernel
theorem dX8_of_2 : decode cX8_of 2 = .ok (.invokevirtual 126, 3) := by decide +kernel
theorem dX8_of_5 : decode cX8_of 5 = .ok (.ifCond .ne 5, 3) := by decide +kernel
theorem dX8_of_8 : decode cX8_of 8 = .ok (.iconst (-1), 1) := by decide +kernel
theorem dX8_of_9 : decode cX8_of 9 = .ok (.ireturn, 1) := by decide +kernel
theorem dX8_of_10 : decode cX8_of 10 = .ok (.iload_n 2, 1) := by decide +kernel
theorem dX8_of_11 : decode cX8_of 11 = .ok (.tableswitch 148 0 7 #[45, 57, 70, 83, 96, 106, 116, 138], 45) := by decide +kernel
theorem dX8_of_56 : decode cX8_of 56 = .ok (.aload_n 0, 1) := by decide +kernel
theorem dX8_of_57 : decode cX8_of 57 = .ok (.getfield 47, 3) := by decide +kernel
theorem dX8_of_60 : decode cX8_of 60 = .ok (.iload_n 1, 1) := by decide +kernel
theorem dX8_of_61 : decode cX8_of 61 = .ok (.invokevirtual 145, 3) := by decide +kernel
theorem dX8_of_64 : decode cX8_of 64 = .ok (.invokestatic 148, 3) := by decide +kernel
theorem dX8_of_67 : decode cX8_of 67 = .ok (.ireturn, 1) := by decide +kernel
theorem dX8_of_68 : decode cX8_of 68 = .ok (.aload_n 0, 1) := by decide +kernel
theorem dX8_of_69 : decode cX8_of 69 = .ok (.getfield 47, 3) := by decide +kernel
theorem dX8_of_72 : decode cX8_of 72 = .ok (.getfield 152, 3) := by decide +kernel
theorem dX8_of_75 : decode cX8_of 75 = .ok (.getfield 156, 3) := by decide +kernel
theorem dX8_of_78 : decode cX8_of 78 = .ok (.iload_n 1, 1) := by decide +kernel
theorem dX8_of_79 : decode cX8_of 79 = .ok (.iaload, 1) := by decide +kernel
theorem dX8_of_80 : decode cX8_of 80 = .ok (.ireturn, 1) := by decide +kernel
theorem dX8_of_81 : decode cX8_of 81 = .ok (.aload_n 0, 1) := by decide +kernel
theorem dX8_of_82 : decode cX8_of 82 = .ok (.getfield 47, 3) := by decide +kernel
theorem dX8_of_85 : decode cX8_of 85 = .ok (.getfield 152, 3) := by decide +kernel
theorem dX8_of_88 : decode cX8_of 88 = .ok (.getfield 161, 3) := by decide +kernel
theorem dX8_of_91 : decode cX8_of 91 = .ok (.iload_n 1, 1) := by decide +kernel
theorem dX8_of_92 : decode cX8_of 92 = .ok (.iaload, 1) := by decide +kernel
theorem dX8_of_93 : decode cX8_of 93 = .ok (.ireturn, 1) := by decide +kernel
theorem dX8_of_94 : decode cX8_of 94 = .ok (.aload_n 0, 1) := by decide +kernel
theorem dX8_of_95 : decode cX8_of 95 = .ok (.getfield 40, 3) := by decide +kernel
theorem dX8_of_98 : decode cX8_of 98 = .ok (.getfield 129, 3) := by decide +kernel
theorem dX8_of_101 : decode cX8_of 101 = .ok (.iload_n 1, 1) := by decide +kernel
theorem dX8_of_102 : decode cX8_of 102 = .ok (.aaload, 1) := by decide +kernel
theorem dX8_of_103 : decode cX8_of 103 = .ok (.getfield 164, 3) := by decide +kernel
theorem dX8_of_106 : decode cX8_of 106 = .ok (.ireturn, 1) := by decide +kernel
theorem dX8_of_107 : decode cX8_of 107 = .ok (.aload_n 0, 1) := by decide +kernel
theorem dX8_of_108 : decode cX8_of 108 = .ok (.getfield 47, 3) := by decide +kernel
theorem dX8_of_111 : decode cX8_of 111 = .ok (.getfield 167, 3) := by decide +kernel
theorem dX8_of_114 : decode cX8_of 114 = .ok (.iload_n 1, 1) := by decide +kernel
theorem dX8_of_115 : decode cX8_of 115 = .ok (.iaload, 1) := by decide +kernel
theorem dX8_of_116 : decode cX8_of 116 = .ok (.ireturn, 1) := by decide +kernel
theorem dX8_of_117 : decode cX8_of 117 = .ok (.aload_n 0, 1) := by decide +kernel
theorem dX8_of_118 : decode cX8_of 118 = .ok (.getfield 40, 3) := by decide +kernel
theorem dX8_of_121 : decode cX8_of 121 = .ok (.getfield 170, 3) := by decide +kernel
theorem dX8_of_124 : decode cX8_of 124 = .ok (.iload_n 1, 1) := by decide +kernel
theorem dX8_of_125 : decode cX8_of 125 = .ok (.iaload, 1) := by decide +kernel
theorem dX8_of_126 : decode cX8_of 126 = .ok (.ireturn, 1) := by decide +kernel
theorem dX8_of_127 : decode cX8_of 127 = .ok (.aload_n 0, 1) := by decide +kernel
theorem dX8_of_128 : decode cX8_of 128 = .ok (.getfield 40, 3) := by decide +kernel
theorem dX8_of_131 : decode cX8_of 131 = .ok (.getfield 170, 3) := by decide +kernel
theorem dX8_of_134 : decode cX8_of 134 = .ok (.iload_n 1, 1) := by decide +kernel
theorem dX8_of_135 : decode cX8_of 135 = .ok (.iaload, 1) := by decide +kernel
theorem dX8_of_136 : decode cX8_of 136 = .ok (.iload_n 1, 1) := by decide +kernel
theorem dX8_of_137 : decode cX8_of 137 = .ok (.if_icmp .ne 7, 3) := by decide +kernel
theorem dX8_of_140 : decode cX8_of 140 = .ok (.iconst 1, 1) := by decide +kernel
theorem dX8_of_141 : decode cX8_of 141 = .ok (.goto 4, 3) := by decide +kernel
theorem dX8_of_144 : decode cX8_of 144 = .ok (.iconst 0, 1) := by decide +kernel
theorem dX8_of_145 : decode cX8_of 145 = .ok (.invokestatic 148, 3) := by decide +kernel
theorem dX8_of_148 : decode cX8_of 148 = .ok (.ireturn, 1) := by decide +kernel
theorem dX8_of_149 : decode cX8_of 149 = .ok (.aload_n 0, 1) := by decide +kernel
theorem dX8_of_150 : decode cX8_of 150 = .ok (.getfield 47, 3) := by decide +kernel
theorem dX8_of_153 : decode cX8_of 153 = .ok (.getfield 173, 3) := by decide +kernel
theorem dX8_of_156 : decode cX8_of 156 = .ok (.iload_n 1, 1) := by decide +kernel
theorem dX8_of_157 : decode cX8_of 157 = .ok (.iaload, 1) := by decide +kernel
theorem dX8_of_158 : decode cX8_of 158 = .ok (.ireturn, 1) := by decide +kernel
theorem dX8_of_159 : decode cX8_of 159 = .ok (.iconst (-1), 1) := by decide +kernel
theorem dX8_of_160 : decode cX8_of 160 = .ok (.ireturn, 1) := by decide +kernel
theorem dX8_core_0 : decode cX8_core 0 = .ok (.aload_n 0, 1) := by decide +kernel
theorem dX8_core_1 : decode cX8_core 1 = .ok (.iload_n 1, 1) := by decide +kernel
theorem dX8_core_2 : decode cX8_core 2 = .ok (.invokevirtual 126, 3) := by decide +kernel
theorem dX8_core_5 : decode cX8_core 5 = .ok (.ifCond .eq 8, 3) := by decide +kernel
theorem dX8_core_8 : decode cX8_core 8 = .ok (.iload_n 2, 1) := by decide +kernel
theorem dX8_core_9 : decode cX8_core 9 = .ok (.iconst (-1), 1) := by decide +kernel
theorem dX8_core_10 : decode cX8_core 10 = .ok (.if_icmp .ge 5, 3) := by decide +kernel
theorem dX8_core_13 : decode cX8_core 13 = .ok (.iconst (-1), 1) := by decide +kernel
theorem dX8_core_14 : decode cX8_core 14 = .ok (.ireturn, 1) := by decide +kernel
theorem dX8_core_15 : decode cX8_core 15 = .ok (.aload_n 0, 1) := by decide +kernel
theorem dX8_core_16 : decode cX8_core 16 = .ok (.getfield 47, 3) := by decide +kernel
theorem dX8_core_19 : decode cX8_core 19 = .ok (.getfield 152, 3) := by decide +kernel
theorem dX8_core_22 : decode cX8_core 22 = .ok (.astore_n 3, 1) := by decide +kernel
theorem dX8_core_23 : decode cX8_core 23 = .ok (.iload_n 2, 1) := by decide +kernel
theorem dX8_core_24 : decode cX8_core 24 = .ok (.iconst (-1), 1) := by decide +kernel
theorem dX8_core_25 : decode cX8_core 25 = .ok (.if_icmp .ne 28, 3) := by decide +kernel
theorem dX8_core_28 : decode cX8_core 28 = .ok (.aload_n 0, 1) := by decide +kernel
theorem dX8_core_29 : decode cX8_core 29 = .ok (.getfield 40, 3) := by decide +kernel
theorem dX8_core_32 : decode cX8_core 32 = .ok (.getfield 176, 3) := by decide +kernel
theorem dX8_core_35 : decode cX8_core 35 = .ok (.aload_n 0, 1) := by decide +kernel
theorem dX8_core_36 : decode cX8_core 36 = .ok (.getfield 47, 3) := by decide +kernel
theorem dX8_core_39 : decode cX8_core 39 = .ok (.getfield 179, 3) := by decide +kernel
theorem dX8_core_42 : decode cX8_core 42 = .ok (.aload_n 3, 1) := by decide +kernel
theorem dX8_core_43 : decode cX8_core 43 = .ok (.getfield 156, 3) := by decide +kernel
theorem dX8_core_46 : decode cX8_core 46 = .ok (.iload_n 1, 1) := by decide +kernel
theorem dX8_core_47 : decode cX8_core 47 = .ok (.iaload, 1) := by decide +kernel
theorem dX8_core_48 : decode cX8_core 48 = .ok (.imul, 1) := by decide +kernel
theorem dX8_core_49 : decode cX8_core 49 = .ok (.isub, 1) := by decide +kernel
theorem dX8_core_50 : decode cX8_core 50 = .ok (.goto 13, 3) := by decide +kernel
theorem dX8_core_53 : decode cX8_core 53 = .ok (.aload_n 3, 1) := by decide +kernel
theorem dX8_core_54 : decode cX8_core 54 = .ok (.getfield 182, 3) := by decide +kernel
theorem dX8_core_57 : decode cX8_core 57 = .ok (.iload_n 1, 1) := by decide +kernel
theorem dX8_core_58 : decode cX8_core 58 = .ok (.aaload, 1) := by decide +kernel
theorem dX8_core_59 : decode cX8_core 59 = .ok (.iload_n 2, 1) := by decide +kernel
theorem dX8_core_60 : decode cX8_core 60 = .ok (.invokestatic 141, 3) := by decide +kernel
theorem dX8_core_63 : decode cX8_core 63 = .ok (.ireturn, 1) := by decide +kernel
theorem dX8_hook_0 : decode cX8_hook 0 = .ok (.aload_n 0, 1) := by decide +kernel
theorem dX8_hook_1 : decode cX8_hook 1 = .ok (.iload_n 1, 1) := by decide +kernel
theorem dX8_hook_2 : decode cX8_hook 2 = .ok (.invokevirtual 126, 3) := by decide +kernel
theorem dX8_hook_5 : decode cX8_hook 5 = .ok (.ifCond .eq 20, 3) := by decide +kernel
theorem dX8_hook_8 : decode cX8_hook 8 = .ok (.aload_n 0, 1) := by decide +kernel
theorem dX8_hook_9 : decode cX8_hook 9 = .ok (.getfield 40, 3) := by decide +kernel
theorem dX8_hook_12 : decode cX8_hook 12 = .ok (.getfield 129, 3) := by decide +kernel
theorem dX8_hook_15 : decode cX8_hook 15 = .ok (.iload_n 1, 1) := by decide +kernel
theorem dX8_hook_16 : decode cX8_hook 16 = .ok (.aaload, 1) := by decide +kernel
theorem dX8_hook_17 : decode cX8_hook 17 = .ok (.iload_n 2, 1) := by decide +kernel
theorem dX8_hook_18 : decode cX8_hook 18 = .ok (.iload_n 3, 1) := by decide +kernel
theorem dX8_hook_19 : decode cX8_hook 19 = .ok (.invokevirtual 186, 3) := by decide +kernel
theorem dX8_hook_22 : decode cX8_hook 22 = .ok (.ifCond .ne 5, 3) := by decide +kernel
theorem dX8_hook_25 : decode cX8_hook 25 = .ok (.iconst (-1), 1) := by decide +kernel
theorem dX8_hook_26 : decode cX8_hook 26 = .ok (.ireturn, 1) := by decide +kernel
theorem dX8_hook_27 : decode cX8_hook 27 = .ok (.aload_n 0, 1) := by decide +kernel
theorem dX8_hook_28 : decode cX8_hook 28 = .ok (.getfield 40, 3) := by decide +kernel
theorem dX8_hook_31 : decode cX8_hook 31 = .ok (.getfield 129, 3) := by decide +kernel
theorem dX8_hook_34 : decode cX8_hook 34 = .ok (.iload_n 1, 1) := by decide +kernel
theorem dX8_hook_35 : decode cX8_hook 35 = .ok (.aaload, 1) := by decide +kernel
theorem dX8_hook_36 : decode cX8_hook 36 = .ok (.iload_n 2, 1) := by decide +kernel
theorem dX8_hook_37 : decode cX8_hook 37 = .ok (.iload_n 3, 1) := by decide +kernel
theorem dX8_hook_38 : decode cX8_hook 38 = .ok (.invokevirtual 190, 3) := by decide +kernel
theorem dX8_hook_41 : decode cX8_hook 41 = .ok (.ireturn, 1) := by decide +kernel
theorem dX8_classOf_0 : decode cX8_classOf 0 = .ok (.aload_n 0, 1) := by decide +kernel
theorem dX8_classOf_1 : decode cX8_classOf 1 = .ok (.iload_n 1, 1) := by decide +kernel
theorem dX8_classOf_2 : decode cX8_classOf 2 = .ok (.invokevirtual 126, 3) := by decide +kernel
theorem dX8_classOf_5 : decode cX8_classOf 5 = .ok (.ifCond .ne 6, 3) := by decide +kernel
theorem dX8_classOf_8 : decode cX8_classOf 8 = .ok (.bipush (-2), 2) := by decide +kernel
theorem dX8_classOf_10 : decode cX8_classOf 10 = .ok (.ireturn, 1) := by decide +kernel
theorem dX8_classOf_11 : decode cX8_classOf 11 = .ok (.iload_n 2, 1) := by decide +kernel
theorem dX8_classOf_12 : decode cX8_classOf 12 = .ok (.tableswitch 89 0 4 #[36, 46, 56, 69, 79], 36) := by decide +kernel
theorem dX8_classOf_48 : decode cX8_classOf 48 = .ok (.aload_n 0, 1) := by decide +kernel
theorem dX8_classOf_49 : decode cX8_classOf 49 = .ok (.getfield 40, 3) := by decide +kernel
theorem dX8_classOf_52 : decode cX8_classOf 52 = .ok (.getfield 193, 3) := by decide +kernel
theorem dX8_classOf_55 : decode cX8_classOf 55 = .ok (.iload_n 1, 1) := by decide +kernel
theorem dX8_classOf_56 : decode cX8_classOf 56 = .ok (.iaload, 1) := by decide +kernel
theorem dX8_classOf_57 : decode cX8_classOf 57 = .ok (.ireturn, 1) := by decide +kernel
theorem dX8_classOf_58 : decode cX8_classOf 58 = .ok (.aload_n 0, 1) := by decide +kernel
theorem dX8_classOf_59 : decode cX8_classOf 59 = .ok (.getfield 40, 3) := by decide +kernel
theorem dX8_classOf_62 : decode cX8_classOf 62 = .ok (.getfield 196, 3) := by decide +kernel
theorem dX8_classOf_65 : decode cX8_classOf 65 = .ok (.iload_n 1, 1) := by decide +kernel
theorem dX8_classOf_66 : decode cX8_classOf 66 = .ok (.iaload, 1) := by decide +kernel
theorem dX8_classOf_67 : decode cX8_classOf 67 = .ok (.ireturn, 1) := by decide +kernel
theorem dX8_classOf_68 : decode cX8_classOf 68 = .ok (.aload_n 0, 1) := by decide +kernel
theorem dX8_classOf_69 : decode cX8_classOf 69 = .ok (.getfield 47, 3) := by decide +kernel
theorem dX8_classOf_72 : decode cX8_classOf 72 = .ok (.getfield 199, 3) := by decide +kernel
theorem dX8_classOf_75 : decode cX8_classOf 75 = .ok (.iload_n 1, 1) := by decide +kernel
theorem dX8_classOf_76 : decode cX8_classOf 76 = .ok (.baload, 1) := by decide +kernel
theorem dX8_classOf_77 : decode cX8_classOf 77 = .ok (.invokestatic 148, 3) := by decide +kernel
theorem dX8_classOf_80 : decode cX8_classOf 80 = .ok (.ireturn, 1) := by decide +kernel
theorem dX8_classOf_81 : decode cX8_classOf 81 = .ok (.aload_n 0, 1) := by decide +kernel
theorem dX8_classOf_82 : decode cX8_classOf 82 = .ok (.getfield 40, 3) := by decide +kernel
theorem dX8_classOf_85 : decode cX8_classOf 85 = .ok (.getfield 203, 3) := by decide +kernel
theorem dX8_classOf_88 : decode cX8_classOf 88 = .ok (.iload_n 1, 1) := by decide +kernel
theorem dX8_classOf_89 : decode cX8_classOf 89 = .ok (.iaload, 1) := by decide +kernel
theorem dX8_classOf_90 : decode cX8_classOf 90 = .ok (.ireturn, 1) := by decide +kernel
theorem dX8_classOf_91 : decode cX8_classOf 91 = .ok (.aload_n 0, 1) := by decide +kernel
theorem dX8_classOf_92 : decode cX8_classOf 92 = .ok (.getfield 40, 3) := by decide +kernel
theorem dX8_classOf_95 : decode cX8_classOf 95 = .ok (.getfield 206, 3) := by decide +kernel
theorem dX8_classOf_98 : decode cX8_classOf 98 = .ok (.iload_n 1, 1) := by decide +kernel
theorem dX8_classOf_99 : decode cX8_classOf 99 = .ok (.iaload, 1) := by decide +kernel
theorem dX8_classOf_100 : decode cX8_classOf 100 = .ok (.ireturn, 1) := by decide +kernel
theorem dX8_classOf_101 : decode cX8_classOf 101 = .ok (.bipush (-2), 2) := by decide +kernel
theorem dX8_classOf_103 : decode cX8_classOf 103 = .ok (.ireturn, 1) := by decide +kernel
theorem dX8_character_0 : decode cX8_character 0 = .ok (.aload_n 0, 1) := by decide +kernel
theorem dX8_character_1 : decode cX8_character 1 = .ok (.iload_n 1, 1) := by decide +kernel
theorem dX8_character_2 : decode cX8_character 2 = .ok (.invokevirtual 126, 3) := by decide +kernel
theorem dX8_character_5 : decode cX8_character 5 = .ok (.ifCond .eq 25, 3) := by decide +kernel
theorem dX8_character_8 : decode cX8_character 8 = .ok (.aload_n 0, 1) := by decide +kernel
theorem dX8_character_9 : decode cX8_character 9 = .ok (.iload_n 2, 1) := by decide +kernel
theorem dX8_character_10 : decode cX8_character 10 = .ok (.invokevirtual 126, 3) := by decide +kernel
theorem dX8_character_13 : decode cX8_character 13 = .ok (.ifCond .eq 17, 3) := by decide +kernel
theorem dX8_character_16 : decode cX8_character 16 = .ok (.aload_n 0, 1) := by decide +kernel
theorem dX8_character_17 : decode cX8_character 17 = .ok (.getfield 40, 3) := by decide +kernel
theorem dX8_character_20 : decode cX8_character 20 = .ok (.getfield 209, 3) := by decide +kernel
theorem dX8_character_23 : decode cX8_character 23 = .ok (.iload_n 1, 1) := by decide +kernel
theorem dX8_character_24 : decode cX8_character 24 = .ok (.aaload, 1) := by decide +kernel
theorem dX8_character_25 : decode cX8_character 25 = .ok (.iload_n 2, 1) := by decide +kernel
theorem dX8_character_26 : decode cX8_character 26 = .ok (.iaload, 1) := by decide +kernel
theorem dX8_character_27 : decode cX8_character 27 = .ok (.goto 6, 3) := by decide +kernel
theorem dX8_character_30 : decode cX8_character 30 = .ok (.sipush (-1001), 3) := by decide +kernel
theorem dX8_character_33 : decode cX8_character 33 = .ok (.ireturn, 1) := by decide +kernel
theorem dX8_modular_0 : decode cX8_modular 0 = .ok (.aload_n 0, 1) := by decide +kernel
theorem dX8_modular_1 : decode cX8_modular 1 = .ok (.iload_n 1, 1) := by decide +kernel
theorem dX8_modular_2 : decode cX8_modular 2 = .ok (.invokevirtual 212, 3) := by decide +kernel
theorem dX8_modular_5 : decode cX8_modular 5 = .ok (.ifCond .eq 23, 3) := by decide +kernel
theorem dX8_modular_8 : decode cX8_modular 8 = .ok (.aload_n 0, 1) := by decide +kernel
theorem dX8_modular_9 : decode cX8_modular 9 = .ok (.iload_n 2, 1) := by decide +kernel
theorem dX8_modular_10 : decode cX8_modular 10 = .ok (.invokevirtual 126, 3) := by decide +kernel
theorem dX8_modular_13 : decode cX8_modular 13 = .ok (.ifCond .eq 15, 3) := by decide +kernel
theorem dX8_modular_16 : decode cX8_modular 16 = .ok (.aload_n 0, 1) := by decide +kernel
theorem dX8_modular_17 : decode cX8_modular 17 = .ok (.getfield 47, 3) := by decide +kernel
theorem dX8_modular_20 : decode cX8_modular 20 = .ok (.getfield 199, 3) := by decide +kernel
theorem dX8_modular_23 : decode cX8_modular 23 = .ok (.iload_n 2, 1) := by decide +kernel
theorem dX8_modular_24 : decode cX8_modular 24 = .ok (.baload, 1) := by decide +kernel
theorem dX8_modular_25 : decode cX8_modular 25 = .ok (.ifCond .ne 7, 3) := by decide +kernel
theorem dX8_modular_28 : decode cX8_modular 28 = .ok (.sipush (-1001), 3) := by decide +kernel
theorem dX8_modular_31 : decode cX8_modular 31 = .ok (.ireturn, 1) := by decide +kernel
theorem dX8_modular_32 : decode cX8_modular 32 = .ok (.aload_n 0, 1) := by decide +kernel
theorem dX8_modular_33 : decode cX8_modular 33 = .ok (.getfield 47, 3) := by decide +kernel
theorem dX8_modular_36 : decode cX8_modular 36 = .ok (.getfield 215, 3) := by decide +kernel
theorem dX8_modular_39 : decode cX8_modular 39 = .ok (.iload_n 1, 1) := by decide +kernel
theorem dX8_modular_40 : decode cX8_modular 40 = .ok (.aaload, 1) := by decide +kernel
theorem dX8_modular_41 : decode cX8_modular 41 = .ok (.iload_n 2, 1) := by decide +kernel
theorem dX8_modular_42 : decode cX8_modular 42 = .ok (.iaload, 1) := by decide +kernel
theorem dX8_modular_43 : decode cX8_modular 43 = .ok (.ireturn, 1) := by decide +kernel
theorem dX8_projective_0 : decode cX8_projective 0 = .ok (.aload_n 0, 1) := by decide +kernel
theorem dX8_projective_1 : decode cX8_projective 1 = .ok (.iload_n 1, 1) := by decide +kernel
theorem dX8_projective_2 : decode cX8_projective 2 = .ok (.invokevirtual 212, 3) := by decide +kernel
theorem dX8_projective_5 : decode cX8_projective 5 = .ok (.ifCond .eq 25, 3) := by decide +kernel
theorem dX8_projective_8 : decode cX8_projective 8 = .ok (.aload_n 0, 1) := by decide +kernel
theorem dX8_projective_9 : decode cX8_projective 9 = .ok (.iload_n 2, 1) := by decide +kernel
theorem dX8_projective_10 : decode cX8_projective 10 = .ok (.invokevirtual 126, 3) := by decide +kernel
theorem dX8_projective_13 : decode cX8_projective 13 = .ok (.ifCond .eq 17, 3) := by decide +kernel
theorem dX8_projective_16 : decode cX8_projective 16 = .ok (.aload_n 0, 1) := by decide +kernel
theorem dX8_projective_17 : decode cX8_projective 17 = .ok (.getfield 47, 3) := by decide +kernel
theorem dX8_projective_20 : decode cX8_projective 20 = .ok (.getfield 218, 3) := by decide +kernel
theorem dX8_projective_23 : decode cX8_projective 23 = .ok (.iload_n 1, 1) := by decide +kernel
theorem dX8_projective_24 : decode cX8_projective 24 = .ok (.aaload, 1) := by decide +kernel
theorem dX8_projective_25 : decode cX8_projective 25 = .ok (.iload_n 2, 1) := by decide +kernel
theorem dX8_projective_26 : decode cX8_projective 26 = .ok (.iaload, 1) := by decide +kernel
theorem dX8_projective_27 : decode cX8_projective 27 = .ok (.goto 6, 3) := by decide +kernel
theorem dX8_projective_30 : decode cX8_projective 30 = .ok (.sipush (-1001), 3) := by decide +kernel
theorem dX8_projective_33 : decode cX8_projective 33 = .ok (.ireturn, 1) := by decide +kernel
theorem dX8_decomposition_0 : decode cX8_decomposition 0 = .ok (.aload_n 0, 1) := by decide +kernel
theorem dX8_decomposition_1 : decode cX8_decomposition 1 = .ok (.iload_n 1, 1) := by decide +kernel
theorem dX8_decomposition_2 : decode cX8_decomposition 2 = .ok (.invokevirtual 126, 3) := by decide +kernel
theorem dX8_decomposition_5 : decode cX8_decomposition 5 = .ok (.ifCond .eq 25, 3) := by decide +kernel
theorem dX8_decomposition_8 : decode cX8_decomposition 8 = .ok (.aload_n 0, 1) := by decide +kernel
theorem dX8_decomposition_9 : decode cX8_decomposition 9 = .ok (.iload_n 2, 1) := by decide +kernel
theorem dX8_decomposition_10 : decode cX8_decomposition 10 = .ok (.invokevirtual 212, 3) := by decide +kernel
theorem dX8_decomposition_13 : decode cX8_decomposition 13 = .ok (.ifCond .eq 17, 3) := by decide +kernel
theorem dX8_decomposition_16 : decode cX8_decomposition 16 = .ok (.aload_n 0, 1) := by decide +kernel
theorem dX8_decomposition_17 : decode cX8_decomposition 17 = .ok (.getfield 47, 3) := by decide +kernel
theorem dX8_decomposition_20 : decode cX8_decomposition 20 = .ok (.getfield 221, 3) := by decide +kernel
theorem dX8_decomposition_23 : decode cX8_decomposition 23 = .ok (.iload_n 1, 1) := by decide +kernel
theorem dX8_decomposition_24 : decode cX8_decomposition 24 = .ok (.aaload, 1) := by decide +kernel
theorem dX8_decomposition_25 : decode cX8_decomposition 25 = .ok (.iload_n 2, 1) := by decide +kernel
theorem dX8_decomposition_26 : decode cX8_decomposition 26 = .ok (.iaload, 1) := by decide +kernel
theorem dX8_decomposition_27 : decode cX8_decomposition 27 = .ok (.goto 4, 3) := by decide +kernel
theorem dX8_decomposition_30 : decode cX8_decomposition 30 = .ok (.iconst (-1), 1) := by decide +kernel
theorem dX8_decomposition_31 : decode cX8_decomposition 31 = .ok (.ireturn, 1) := by decide +kernel
theorem dX8_cartan_0 : decode cX8_cartan 0 = .ok (.aload_n 0, 1) := by decide +kernel
theorem dX8_cartan_1 : decode cX8_cartan 1 = .ok (.iload_n 1, 1) := by decide +kernel
theorem dX8_cartan_2 : decode cX8_cartan 2 = .ok (.invokevirtual 212, 3) := by decide +kernel
theorem dX8_cartan_5 : decode cX8_cartan 5 = .ok (.ifCond .eq 25, 3) := by decide +kernel
theorem dX8_cartan_8 : decode cX8_cartan 8 = .ok (.aload_n 0, 1) := by decide +kernel
theorem dX8_cartan_9 : decode cX8_cartan 9 = .ok (.iload_n 2, 1) := by decide +kernel
theorem dX8_cartan_10 : decode cX8_cartan 10 = .ok (.invokevirtual 212, 3) := by decide +kernel
theorem dX8_cartan_13 : decode cX8_cartan 13 = .ok (.ifCond .eq 17, 3) := by decide +kernel
theorem dX8_cartan_16 : decode cX8_cartan 16 = .ok (.aload_n 0, 1) := by decide +kernel
theorem dX8_cartan_17 : decode cX8_cartan 17 = .ok (.getfield 47, 3) := by decide +kernel
theorem dX8_cartan_20 : decode cX8_cartan 20 = .ok (.getfield 224, 3) := by decide +kernel
theorem dX8_cartan_23 : decode cX8_cartan 23 = .ok (.iload_n 1, 1) := by decide +kernel
theorem dX8_cartan_24 : decode cX8_cartan 24 = .ok (.aaload, 1) := by decide +kernel
theorem dX8_cartan_25 : decode cX8_cartan 25 = .ok (.iload_n 2, 1) := by decide +kernel
theorem dX8_cartan_26 : decode cX8_cartan 26 = .ok (.iaload, 1) := by decide +kernel
theorem dX8_cartan_27 : decode cX8_cartan 27 = .ok (.goto 4, 3) := by decide +kernel
theorem dX8_cartan_30 : decode cX8_cartan 30 = .ok (.iconst (-1), 1) := by decide +kernel
theorem dX8_cartan_31 : decode cX8_cartan 31 = .ok (.ireturn, 1) := by decide +kernel
theorem dX8_tableau_0 : decode cX8_tableau 0 = .ok (.aload_n 0, 1) := by decide +kernel
theorem dX8_tableau_1 : decode cX8_tableau 1 = .ok (.iload_n 1, 1) := by decide +kernel
theorem dX8_tableau_2 : decode cX8_tableau 2 = .ok (.invokevirtual 126, 3) := by decide +kernel
theorem dX8_tableau_5 : decode cX8_tableau 5 = .ok (.ifCond .ne 5, 3) := by decide +kernel
theorem dX8_tableau_8 : decode cX8_tableau 8 = .ok (.iconst (-1), 1) := by decide +kernel
theorem dX8_tableau_9 : decode cX8_tableau 9 = .ok (.ireturn, 1) := by decide +kernel
theorem dX8_tableau_10 : decode cX8_tableau 10 = .ok (.aload_n 0, 1) := by decide +kernel
theorem dX8_tableau_11 : decode cX8_tableau 11 = .ok (.getfield 40, 3) := by decide +kernel
theorem dX8_tableau_14 : decode cX8_tableau 14 = .ok (.getfield 129, 3) := by decide +kernel
theorem dX8_tableau_17 : decode cX8_tableau 17 = .ok (.iload_n 1, 1) := by decide +kernel
theorem dX8_tableau_18 : decode cX8_tableau 18 = .ok (.aaload, 1) := by decide +kernel
theorem dX8_tableau_19 : decode cX8_tableau 19 = .ok (.astore 5, 2) := by decide +kernel
theorem dX8_tableau_21 : decode cX8_tableau 21 = .ok (.iload_n 3, 1) := by decide +kernel
theorem dX8_tableau_22 : decode cX8_tableau 22 = .ok (.iconst (-1), 1) := by decide +kernel
theorem dX8_tableau_23 : decode cX8_tableau 23 = .ok (.if_icmp .ne 9, 3) := by decide +kernel
theorem dX8_tableau_26 : decode cX8_tableau 26 = .ok (.aload 5, 2) := by decide +kernel
theorem dX8_tableau_28 : decode cX8_tableau 28 = .ok (.getfield 164, 3) := by decide +kernel
theorem dX8_tableau_31 : decode cX8_tableau 31 = .ok (.ireturn, 1) := by decide +kernel
theorem dX8_tableau_32 : decode cX8_tableau 32 = .ok (.iload_n 2, 1) := by decide +kernel
theorem dX8_tableau_33 : decode cX8_tableau 33 = .ok (.ifCond .lt 23, 3) := by decide +kernel
theorem dX8_tableau_36 : decode cX8_tableau 36 = .ok (.iload_n 2, 1) := by decide +kernel
theorem dX8_tableau_37 : decode cX8_tableau 37 = .ok (.aload 5, 2) := by decide +kernel
theorem dX8_tableau_39 : decode cX8_tableau 39 = .ok (.getfield 164, 3) := by decide +kernel
theorem dX8_tableau_42 : decode cX8_tableau 42 = .ok (.if_icmp .ge 14, 3) := by decide +kernel
theorem dX8_tableau_45 : decode cX8_tableau 45 = .ok (.aload 5, 2) := by decide +kernel
theorem dX8_tableau_47 : decode cX8_tableau 47 = .ok (.iload_n 3, 1) := by decide +kernel
theorem dX8_tableau_48 : decode cX8_tableau 48 = .ok (.iload 4, 2) := by decide +kernel
theorem dX8_tableau_50 : decode cX8_tableau 50 = .ok (.invokevirtual 186, 3) := by decide +kernel
theorem dX8_tableau_53 : decode cX8_tableau 53 = .ok (.ifCond .ne 5, 3) := by decide +kernel
theorem dX8_tableau_56 : decode cX8_tableau 56 = .ok (.iconst (-1), 1) := by decide +kernel
theorem dX8_tableau_57 : decode cX8_tableau 57 = .ok (.ireturn, 1) := by decide +kernel
theorem dX8_tableau_58 : decode cX8_tableau 58 = .ok (.aload 5, 2) := by decide +kernel
theorem dX8_tableau_60 : decode cX8_tableau 60 = .ok (.getfield 227, 3) := by decide +kernel
theorem dX8_tableau_63 : decode cX8_tableau 63 = .ok (.iload_n 2, 1) := by decide +kernel
theorem dX8_tableau_64 : decode cX8_tableau 64 = .ok (.aaload, 1) := by decide +kernel
theorem dX8_tableau_65 : decode cX8_tableau 65 = .ok (.aload 5, 2) := by decide +kernel
theorem dX8_tableau_67 : decode cX8_tableau 67 = .ok (.getfield 230, 3) := by decide +kernel
theorem dX8_tableau_70 : decode cX8_tableau 70 = .ok (.iload_n 3, 1) := by decide +kernel
theorem dX8_tableau_71 : decode cX8_tableau 71 = .ok (.iaload, 1) := by decide +kernel
theorem dX8_tableau_72 : decode cX8_tableau 72 = .ok (.iload 4, 2) := by decide +kernel
theorem dX8_tableau_74 : decode cX8_tableau 74 = .ok (.iadd, 1) := by decide +kernel
theorem dX8_tableau_75 : decode cX8_tableau 75 = .ok (.iaload, 1) := by decide +kernel
theorem dX8_tableau_76 : decode cX8_tableau 76 = .ok (.ireturn, 1) := by decide +kernel
theorem dX8_gram_0 : decode cX8_gram 0 = .ok (.aload_n 0, 1) := by decide +kernel
theorem dX8_gram_1 : decode cX8_gram 1 = .ok (.iload_n 1, 1) := by decide +kernel
theorem dX8_gram_2 : decode cX8_gram 2 = .ok (.invokevirtual 126, 3) := by decide +kernel
theorem dX8_gram_5 : decode cX8_gram 5 = .ok (.ifCond .ne 7, 3) := by decide +kernel
theorem dX8_gram_8 : decode cX8_gram 8 = .ok (.sipush (-1001), 3) := by decide +kernel
theorem dX8_gram_11 : decode cX8_gram 11 = .ok (.ireturn, 1) := by decide +kernel
theorem dX8_gram_12 : decode cX8_gram 12 = .ok (.aload_n 0, 1) := by decide +kernel
theorem dX8_gram_13 : decode cX8_gram 13 = .ok (.getfield 40, 3) := by decide +kernel
theorem dX8_gram_16 : decode cX8_gram 16 = .ok (.getfield 129, 3) := by decide +kernel
theorem dX8_gram_19 : decode cX8_gram 19 = .ok (.iload_n 1, 1) := by decide +kernel
theorem dX8_gram_20 : decode cX8_gram 20 = .ok (.aaload, 1) := by decide +kernel
theorem dX8_gram_21 : decode cX8_gram 21 = .ok (.astore 4, 2) := by decide +kernel
theorem dX8_gram_23 : decode cX8_gram 23 = .ok (.iload_n 2, 1) := by decide +kernel
theorem dX8_gram_24 : decode cX8_gram 24 = .ok (.ifCond .lt 25, 3) := by decide +kernel
theorem dX8_gram_27 : decode cX8_gram 27 = .ok (.iload_n 2, 1) := by decide +kernel
theorem dX8_gram_28 : decode cX8_gram 28 = .ok (.aload 4, 2) := by decide +kernel
theorem dX8_gram_30 : decode cX8_gram 30 = .ok (.getfield 164, 3) := by decide +kernel
theorem dX8_gram_33 : decode cX8_gram 33 = .ok (.if_icmp .ge 16, 3) := by decide +kernel
theorem dX8_gram_36 : decode cX8_gram 36 = .ok (.iload_n 3, 1) := by decide +kernel
theorem dX8_gram_37 : decode cX8_gram 37 = .ok (.ifCond .lt 12, 3) := by decide +kernel
theorem dX8_gram_40 : decode cX8_gram 40 = .ok (.iload_n 3, 1) := by decide +kernel
theorem dX8_gram_41 : decode cX8_gram 41 = .ok (.aload 4, 2) := by decide +kernel
theorem dX8_gram_43 : decode cX8_gram 43 = .ok (.getfield 164, 3) := by decide +kernel
theorem dX8_gram_46 : decode cX8_gram 46 = .ok (.if_icmp .lt 7, 3) := by decide +kernel
theorem dX8_gram_49 : decode cX8_gram 49 = .ok (.sipush (-1001), 3) := by decide +kernel
theorem dX8_gram_52 : decode cX8_gram 52 = .ok (.ireturn, 1) := by decide +kernel
theorem dX8_gram_53 : decode cX8_gram 53 = .ok (.aload 4, 2) := by decide +kernel
theorem dX8_gram_55 : decode cX8_gram 55 = .ok (.getfield 233, 3) := by decide +kernel
theorem dX8_gram_58 : decode cX8_gram 58 = .ok (.iload_n 2, 1) := by decide +kernel
theorem dX8_gram_59 : decode cX8_gram 59 = .ok (.aaload, 1) := by decide +kernel
theorem dX8_gram_60 : decode cX8_gram 60 = .ok (.iload_n 3, 1) := by decide +kernel
theorem dX8_gram_61 : decode cX8_gram 61 = .ok (.iaload, 1) := by decide +kernel
theorem dX8_gram_62 : decode cX8_gram 62 = .ok (.ireturn, 1) := by decide +kernel
theorem dX8_block_0 : decode cX8_block 0 = .ok (.aload_n 0, 1) := by decide +kernel
theorem dX8_block_1 : decode cX8_block 1 = .ok (.getfield 47, 3) := by decide +kernel
theorem dX8_block_4 : decode cX8_block 4 = .ok (.getfield 152, 3) := by decide +kernel
theorem dX8_block_7 : decode cX8_block 7 = .ok (.astore_n 3, 1) := by decide +kernel
theorem dX8_block_8 : decode cX8_block 8 = .ok (.iload_n 2, 1) := by decide +kernel
theorem dX8_block_9 : decode cX8_block 9 = .ok (.iconst (-1), 1) := by decide +kernel
theorem dX8_block_10 : decode cX8_block 10 = .ok (.if_icmp .ne 8, 3) := by decide +kernel
theorem dX8_block_13 : decode cX8_block 13 = .ok (.aload_n 3, 1) := by decide +kernel
theorem dX8_block_14 : decode cX8_block 14 = .ok (.getfield 236, 3) := by decide +kernel
theorem dX8_block_17 : decode cX8_block 17 = .ok (.ireturn, 1) := by decide +kernel
theorem dX8_block_18 : decode cX8_block 18 = .ok (.iload_n 1, 1) := by decide +kernel
theorem dX8_block_19 : decode cX8_block 19 = .ok (.ifCond .lt 11, 3) := by decide +kernel
theorem dX8_block_22 : decode cX8_block 22 = .ok (.iload_n 1, 1) := by decide +kernel
theorem dX8_block_23 : decode cX8_block 23 = .ok (.aload_n 3, 1) := by decide +kernel
theorem dX8_block_24 : decode cX8_block 24 = .ok (.getfield 236, 3) := by decide +kernel
theorem dX8_block_27 : decode cX8_block 27 = .ok (.if_icmp .lt 5, 3) := by decide +kernel
theorem dX8_block_30 : decode cX8_block 30 = .ok (.iconst (-1), 1) := by decide +kernel
theorem dX8_block_31 : decode cX8_block 31 = .ok (.ireturn, 1) := by decide +kernel
theorem dX8_block_32 : decode cX8_block 32 = .ok (.iload_n 2, 1) := by decide +kernel
theorem dX8_block_33 : decode cX8_block 33 = .ok (.tableswitch 89 0 5 #[39, 46, 53, 65, 72, 79], 39) := by decide +kernel
theorem dX8_block_72 : decode cX8_block 72 = .ok (.aload_n 3, 1) := by decide +kernel
theorem dX8_block_73 : decode cX8_block 73 = .ok (.getfield 237, 3) := by decide +kernel
theorem dX8_block_76 : decode cX8_block 76 = .ok (.iload_n 1, 1) := by decide +kernel
theorem dX8_block_77 : decode cX8_block 77 = .ok (.iaload, 1) := by decide +kernel
theorem dX8_block_78 : decode cX8_block 78 = .ok (.ireturn, 1) := by decide +kernel
theorem dX8_block_79 : decode cX8_block 79 = .ok (.aload_n 3, 1) := by decide +kernel
theorem dX8_block_80 : decode cX8_block 80 = .ok (.getfield 240, 3) := by decide +kernel
theorem dX8_block_83 : decode cX8_block 83 = .ok (.iload_n 1, 1) := by decide +kernel
theorem dX8_block_84 : decode cX8_block 84 = .ok (.iaload, 1) := by decide +kernel
theorem dX8_block_85 : decode cX8_block 85 = .ok (.ireturn, 1) := by decide +kernel
theorem dX8_block_86 : decode cX8_block 86 = .ok (.aload_n 3, 1) := by decide +kernel
theorem dX8_block_87 : decode cX8_block 87 = .ok (.getfield 156, 3) := by decide +kernel
theorem dX8_block_90 : decode cX8_block 90 = .ok (.aload_n 3, 1) := by decide +kernel
theorem dX8_block_91 : decode cX8_block 91 = .ok (.getfield 243, 3) := by decide +kernel
theorem dX8_block_94 : decode cX8_block 94 = .ok (.iload_n 1, 1) := by decide +kernel
theorem dX8_block_95 : decode cX8_block 95 = .ok (.iaload, 1) := by decide +kernel
theorem dX8_block_96 : decode cX8_block 96 = .ok (.iaload, 1) := by decide +kernel
theorem dX8_block_97 : decode cX8_block 97 = .ok (.ireturn, 1) := by decide +kernel
theorem dX8_block_98 : decode cX8_block 98 = .ok (.aload_n 3, 1) := by decide +kernel
theorem dX8_block_99 : decode cX8_block 99 = .ok (.getfield 246, 3) := by decide +kernel
theorem dX8_block_102 : decode cX8_block 102 = .ok (.iload_n 1, 1) := by decide +kernel
theorem dX8_block_103 : decode cX8_block 103 = .ok (.iaload, 1) := by decide +kernel
theorem dX8_block_104 : decode cX8_block 104 = .ok (.ireturn, 1) := by decide +kernel
theorem dX8_block_105 : decode cX8_block 105 = .ok (.aload_n 3, 1) := by decide +kernel
theorem dX8_block_106 : decode cX8_block 106 = .ok (.getfield 243, 3) := by decide +kernel
theorem dX8_block_109 : decode cX8_block 109 = .ok (.iload_n 1, 1) := by decide +kernel
theorem dX8_block_110 : decode cX8_block 110 = .ok (.iaload, 1) := by decide +kernel
theorem dX8_block_111 : decode cX8_block 111 = .ok (.ireturn, 1) := by decide +kernel
theorem dX8_block_112 : decode cX8_block 112 = .ok (.aload_n 0, 1) := by decide +kernel
theorem dX8_block_113 : decode cX8_block 113 = .ok (.getfield 47, 3) := by decide +kernel
theorem dX8_block_116 : decode cX8_block 116 = .ok (.getfield 249, 3) := by decide +kernel
theorem dX8_block_119 : decode cX8_block 119 = .ok (.iload_n 1, 1) := by decide +kernel
theorem dX8_block_120 : decode cX8_block 120 = .ok (.iaload, 1) := by decide +kernel
theorem dX8_block_121 : decode cX8_block 121 = .ok (.ireturn, 1) := by decide +kernel
theorem dX8_block_122 : decode cX8_block 122 = .ok (.iconst (-1), 1) := by decide +kernel
theorem dX8_block_123 : decode cX8_block 123 = .ok (.ireturn, 1) := by decide +kernel
theorem dX8_value_0 : decode cX8_value 0 = .ok (.iload_n 1, 1) := by decide +kernel
theorem dX8_value_1 : decode cX8_value 1 = .ok (.invokestatic 88, 3) := by decide +kernel
theorem dX8_value_4 : decode cX8_value 4 = .ok (.ifCond .eq 22, 3) := by decide +kernel
theorem dX8_value_7 : decode cX8_value 7 = .ok (.aload_n 0, 1) := by decide +kernel
theorem dX8_value_8 : decode cX8_value 8 = .ok (.iload_n 2, 1) := by decide +kernel
theorem dX8_value_9 : decode cX8_value 9 = .ok (.invokevirtual 126, 3) := by decide +kernel
theorem dX8_value_12 : decode cX8_value 12 = .ok (.ifCond .eq 14, 3) := by decide +kernel
theorem dX8_value_15 : decode cX8_value 15 = .ok (.aload_n 0, 1) := by decide +kernel
theorem dX8_value_16 : decode cX8_value 16 = .ok (.getfield 23, 3) := by decide +kernel
theorem dX8_value_19 : decode cX8_value 19 = .ok (.iload_n 1, 1) := by decide +kernel
theorem dX8_value_20 : decode cX8_value 20 = .ok (.aaload, 1) := by decide +kernel
theorem dX8_value_21 : decode cX8_value 21 = .ok (.iload_n 2, 1) := by decide +kernel
theorem dX8_value_22 : decode cX8_value 22 = .ok (.laload, 1) := by decide +kernel
theorem dX8_value_23 : decode cX8_value 23 = .ok (.goto 6, 3) := by decide +kernel
theorem dX8_value_26 : decode cX8_value 26 = .ok (.ldc2_w 254, 3) := by decide +kernel
theorem dX8_value_29 : decode cX8_value 29 = .ok (.lreturn, 1) := by decide +kernel
theorem dX8_parts_0 : decode cX8_parts 0 = .ok (.iload_n 1, 1) := by decide +kernel
theorem dX8_parts_1 : decode cX8_parts 1 = .ok (.invokestatic 88, 3) := by decide +kernel
theorem dX8_parts_4 : decode cX8_parts 4 = .ok (.ifCond .eq 20, 3) := by decide +kernel
theorem dX8_parts_7 : decode cX8_parts 7 = .ok (.aload_n 0, 1) := by decide +kernel
theorem dX8_parts_8 : decode cX8_parts 8 = .ok (.iload_n 2, 1) := by decide +kernel
theorem dX8_parts_9 : decode cX8_parts 9 = .ok (.invokevirtual 126, 3) := by decide +kernel
theorem dX8_parts_12 : decode cX8_parts 12 = .ok (.ifCond .eq 12, 3) := by decide +kernel
theorem dX8_parts_15 : decode cX8_parts 15 = .ok (.iload_n 3, 1) := by decide +kernel
theorem dX8_parts_16 : decode cX8_parts 16 = .ok (.ifCond .lt 8, 3) := by decide +kernel
theorem dX8_parts_19 : decode cX8_parts 19 = .ok (.iload_n 3, 1) := by decide +kernel
theorem dX8_parts_20 : decode cX8_parts 20 = .ok (.iconst 3, 1) := by decide +kernel
theorem dX8_parts_21 : decode cX8_parts 21 = .ok (.if_icmp .le 7, 3) := by decide +kernel
theorem dX8_parts_24 : decode cX8_parts 24 = .ok (.ldc2_w 254, 3) := by decide +kernel
theorem dX8_parts_27 : decode cX8_parts 27 = .ok (.lreturn, 1) := by decide +kernel
theorem dX8_parts_28 : decode cX8_parts 28 = .ok (.iload_n 3, 1) := by decide +kernel
theorem dX8_parts_29 : decode cX8_parts 29 = .ok (.iconst 1, 1) := by decide +kernel
theorem dX8_parts_30 : decode cX8_parts 30 = .ok (.if_icmp .eq 8, 3) := by decide +kernel
theorem dX8_parts_33 : decode cX8_parts 33 = .ok (.iload_n 3, 1) := by decide +kernel
theorem dX8_parts_34 : decode cX8_parts 34 = .ok (.iconst 3, 1) := by decide +kernel
theorem dX8_parts_35 : decode cX8_parts 35 = .ok (.if_icmp .ne 7, 3) := by decide +kernel
theorem dX8_parts_38 : decode cX8_parts 38 = .ok (.iconst 1, 1) := by decide +kernel
theorem dX8_parts_39 : decode cX8_parts 39 = .ok (.goto 4, 3) := by decide +kernel
theorem dX8_parts_42 : decode cX8_parts 42 = .ok (.iconst 0, 1) := by decide +kernel
theorem dX8_parts_43 : decode cX8_parts 43 = .ok (.istore 4, 2) := by decide +kernel
theorem dX8_parts_45 : decode cX8_parts 45 = .ok (.iload 4, 2) := by decide +kernel
theorem dX8_parts_47 : decode cX8_parts 47 = .ok (.ifCond .eq 18, 3) := by decide +kernel
theorem dX8_parts_50 : decode cX8_parts 50 = .ok (.aload_n 0, 1) := by decide +kernel
theorem dX8_parts_51 : decode cX8_parts 51 = .ok (.getfield 47, 3) := by decide +kernel
theorem dX8_parts_54 : decode cX8_parts 54 = .ok (.iload_n 2, 1) := by decide +kernel
theorem dX8_parts_55 : decode cX8_parts 55 = .ok (.invokevirtual 145, 3) := by decide +kernel
theorem dX8_parts_58 : decode cX8_parts 58 = .ok (.ifCond .ne 7, 3) := by decide +kernel
theorem dX8_parts_61 : decode cX8_parts 61 = .ok (.ldc2_w 254, 3) := by decide +kernel
theorem dX8_parts_64 : decode cX8_parts 64 = .ok (.lreturn, 1) := by decide +kernel
theorem dX8_parts_65 : decode cX8_parts 65 = .ok (.aload_n 0, 1) := by decide +kernel
theorem dX8_parts_66 : decode cX8_parts 66 = .ok (.aload_n 0, 1) := by decide +kernel
theorem dX8_parts_67 : decode cX8_parts 67 = .ok (.getfield 23, 3) := by decide +kernel
theorem dX8_parts_70 : decode cX8_parts 70 = .ok (.iload_n 1, 1) := by decide +kernel
theorem dX8_parts_71 : decode cX8_parts 71 = .ok (.aaload, 1) := by decide +kernel
theorem dX8_parts_72 : decode cX8_parts 72 = .ok (.iload_n 2, 1) := by decide +kernel
theorem dX8_parts_73 : decode cX8_parts 73 = .ok (.iload 4, 2) := by decide +kernel
theorem dX8_parts_75 : decode cX8_parts 75 = .ok (.invokevirtual 256, 3) := by decide +kernel
theorem dX8_parts_78 : decode cX8_parts 78 = .ok (.lstore 5, 2) := by decide +kernel
theorem dX8_parts_80 : decode cX8_parts 80 = .ok (.lload 5, 2) := by decide +kernel
theorem dX8_parts_82 : decode cX8_parts 82 = .ok (.invokestatic 260, 3) := by decide +kernel
theorem dX8_parts_85 : decode cX8_parts 85 = .ok (.aload_n 0, 1) := by decide +kernel
theorem dX8_parts_86 : decode cX8_parts 86 = .ok (.getfield 40, 3) := by decide +kernel
theorem dX8_parts_89 : decode cX8_parts 89 = .ok (.getfield 266, 3) := by decide +kernel
theorem dX8_parts_92 : decode cX8_parts 92 = .ok (.i2l, 1) := by decide +kernel
theorem dX8_parts_93 : decode cX8_parts 93 = .ok (.invokestatic 269, 3) := by decide +kernel
theorem dX8_parts_96 : decode cX8_parts 96 = .ok (.lstore 7, 2) := by decide +kernel
theorem dX8_parts_98 : decode cX8_parts 98 = .ok (.lload 7, 2) := by decide +kernel
theorem dX8_parts_100 : decode cX8_parts 100 = .ok (.lconst 0, 1) := by decide +kernel
theorem dX8_parts_101 : decode cX8_parts 101 = .ok (.lcmp, 1) := by decide +kernel
theorem dX8_parts_102 : decode cX8_parts 102 = .ok (.ifCond .ne 7, 3) := by decide +kernel
theorem dX8_parts_105 : decode cX8_parts 105 = .ok (.ldc2_w 254, 3) := by decide +kernel
theorem dX8_parts_108 : decode cX8_parts 108 = .ok (.lreturn, 1) := by decide +kernel
theorem dX8_parts_109 : decode cX8_parts 109 = .ok (.iload_n 3, 1) := by decide +kernel
theorem dX8_parts_110 : decode cX8_parts 110 = .ok (.iconst 2, 1) := by decide +kernel
theorem dX8_parts_111 : decode cX8_parts 111 = .ok (.if_icmp .ge 11, 3) := by decide +kernel
theorem dX8_parts_114 : decode cX8_parts 114 = .ok (.lload 5, 2) := by decide +kernel
theorem dX8_parts_116 : decode cX8_parts 116 = .ok (.lload 7, 2) := by decide +kernel
theorem dX8_parts_118 : decode cX8_parts 118 = .ok (.ldiv, 1) := by decide +kernel
theorem dX8_parts_119 : decode cX8_parts 119 = .ok (.goto 14, 3) := by decide +kernel
theorem dX8_parts_122 : decode cX8_parts 122 = .ok (.aload_n 0, 1) := by decide +kernel
theorem dX8_parts_123 : decode cX8_parts 123 = .ok (.getfield 40, 3) := by decide +kernel
theorem dX8_parts_126 : decode cX8_parts 126 = .ok (.getfield 266, 3) := by decide +kernel
theorem dX8_parts_129 : decode cX8_parts 129 = .ok (.i2l, 1) := by decide +kernel
theorem dX8_parts_130 : decode cX8_parts 130 = .ok (.lload 7, 2) := by decide +kernel
theorem dX8_parts_132 : decode cX8_parts 132 = .ok (.ldiv, 1) := by decide +kernel
theorem dX8_parts_133 : decode cX8_parts 133 = .ok (.lreturn, 1) := by decide +kernel
theorem dX8_inner_0 : decode cX8_inner 0 = .ok (.iload_n 1, 1) := by decide +kernel
theorem dX8_inner_1 : decode cX8_inner 1 = .ok (.invokestatic 88, 3) := by decide +kernel
theorem dX8_inner_4 : decode cX8_inner 4 = .ok (.ifCond .eq 10, 3) := by decide +kernel
theorem dX8_inner_7 : decode cX8_inner 7 = .ok (.iload_n 2, 1) := by decide +kernel
theorem dX8_inner_8 : decode cX8_inner 8 = .ok (.invokestatic 88, 3) := by decide +kernel
theorem dX8_inner_11 : decode cX8_inner 11 = .ok (.ifCond .ne 7, 3) := by decide +kernel
theorem dX8_inner_14 : decode cX8_inner 14 = .ok (.ldc2_w 273, 3) := by decide +kernel
theorem dX8_inner_17 : decode cX8_inner 17 = .ok (.lreturn, 1) := by decide +kernel
theorem dX8_inner_18 : decode cX8_inner 18 = .ok (.lconst 0, 1) := by decide +kernel
theorem dX8_inner_19 : decode cX8_inner 19 = .ok (.lstore_n 3, 1) := by decide +kernel
theorem dX8_inner_20 : decode cX8_inner 20 = .ok (.iconst 0, 1) := by decide +kernel
theorem dX8_inner_21 : decode cX8_inner 21 = .ok (.istore 5, 2) := by decide +kernel
theorem dX8_inner_23 : decode cX8_inner 23 = .ok (.iload 5, 2) := by decide +kernel
theorem dX8_inner_25 : decode cX8_inner 25 = .ok (.aload_n 0, 1) := by decide +kernel
theorem dX8_inner_26 : decode cX8_inner 26 = .ok (.getfield 40, 3) := by decide +kernel
theorem dX8_inner_29 : decode cX8_inner 29 = .ok (.getfield 74, 3) := by decide +kernel
theorem dX8_inner_32 : decode cX8_inner 32 = .ok (.if_icmp .ge 43, 3) := by decide +kernel
theorem dX8_inner_35 : decode cX8_inner 35 = .ok (.lload_n 3, 1) := by decide +kernel
theorem dX8_inner_36 : decode cX8_inner 36 = .ok (.aload_n 0, 1) := by decide +kernel
theorem dX8_inner_37 : decode cX8_inner 37 = .ok (.getfield 40, 3) := by decide +kernel
theorem dX8_inner_40 : decode cX8_inner 40 = .ok (.getfield 193, 3) := by decide +kernel
theorem dX8_inner_43 : decode cX8_inner 43 = .ok (.iload 5, 2) := by decide +kernel
theorem dX8_inner_45 : decode cX8_inner 45 = .ok (.iaload, 1) := by decide +kernel
theorem dX8_inner_46 : decode cX8_inner 46 = .ok (.i2l, 1) := by decide +kernel
theorem dX8_inner_47 : decode cX8_inner 47 = .ok (.aload_n 0, 1) := by decide +kernel
theorem dX8_inner_48 : decode cX8_inner 48 = .ok (.getfield 23, 3) := by decide +kernel
theorem dX8_inner_51 : decode cX8_inner 51 = .ok (.iload_n 1, 1) := by decide +kernel
theorem dX8_inner_52 : decode cX8_inner 52 = .ok (.aaload, 1) := by decide +kernel
theorem dX8_inner_53 : decode cX8_inner 53 = .ok (.iload 5, 2) := by decide +kernel
theorem dX8_inner_55 : decode cX8_inner 55 = .ok (.laload, 1) := by decide +kernel
theorem dX8_inner_56 : decode cX8_inner 56 = .ok (.lmul, 1) := by decide +kernel
theorem dX8_inner_57 : decode cX8_inner 57 = .ok (.aload_n 0, 1) := by decide +kernel
theorem dX8_inner_58 : decode cX8_inner 58 = .ok (.getfield 23, 3) := by decide +kernel
theorem dX8_inner_61 : decode cX8_inner 61 = .ok (.iload_n 2, 1) := by decide +kernel
theorem dX8_inner_62 : decode cX8_inner 62 = .ok (.aaload, 1) := by decide +kernel
theorem dX8_inner_63 : decode cX8_inner 63 = .ok (.iload 5, 2) := by decide +kernel
theorem dX8_inner_65 : decode cX8_inner 65 = .ok (.laload, 1) := by decide +kernel
theorem dX8_inner_66 : decode cX8_inner 66 = .ok (.lmul, 1) := by decide +kernel
theorem dX8_inner_67 : decode cX8_inner 67 = .ok (.ladd, 1) := by decide +kernel
theorem dX8_inner_68 : decode cX8_inner 68 = .ok (.lstore_n 3, 1) := by decide +kernel
theorem dX8_inner_69 : decode cX8_inner 69 = .ok (.iinc 5 1, 3) := by decide +kernel
theorem dX8_inner_72 : decode cX8_inner 72 = .ok (.goto (-49), 3) := by decide +kernel
theorem dX8_inner_75 : decode cX8_inner 75 = .ok (.lload_n 3, 1) := by decide +kernel
theorem dX8_inner_76 : decode cX8_inner 76 = .ok (.lreturn, 1) := by decide +kernel
theorem dX8_kind_0 : decode cX8_kind 0 = .ok (.iload_n 1, 1) := by decide +kernel
theorem dX8_kind_1 : decode cX8_kind 1 = .ok (.invokestatic 88, 3) := by decide +kernel
theorem dX8_kind_4 : decode cX8_kind 4 = .ok (.ifCond .ne 5, 3) := by decide +kernel
theorem dX8_kind_7 : decode cX8_kind 7 = .ok (.iconst (-1), 1) := by decide +kernel
theorem dX8_kind_8 : decode cX8_kind 8 = .ok (.ireturn, 1) := by decide +kernel
theorem dX8_kind_9 : decode cX8_kind 9 = .ok (.aload_n 0, 1) := by decide +kernel
theorem dX8_kind_10 : decode cX8_kind 10 = .ok (.getfield 23, 3) := by decide +kernel
theorem dX8_kind_13 : decode cX8_kind 13 = .ok (.iload_n 1, 1) := by decide +kernel
theorem dX8_kind_14 : decode cX8_kind 14 = .ok (.aaload, 1) := by decide +kernel
theorem dX8_kind_15 : decode cX8_kind 15 = .ok (.astore_n 3, 1) := by decide +kernel
theorem dX8_kind_16 : decode cX8_kind 16 = .ok (.iload_n 2, 1) := by decide +kernel
theorem dX8_kind_17 : decode cX8_kind 17 = .ok (.tableswitch 88 0 4 #[35, 44, 55, 66, 77], 35) := by decide +kernel
theorem dX8_kind_52 : decode cX8_kind 52 = .ok (.aload_n 0, 1) := by decide +kernel
theorem dX8_kind_53 : decode cX8_kind 53 = .ok (.aload_n 3, 1) := by decide +kernel
theorem dX8_kind_54 : decode cX8_kind 54 = .ok (.invokevirtual 275, 3) := by decide +kernel
theorem dX8_kind_57 : decode cX8_kind 57 = .ok (.invokestatic 148, 3) := by decide +kernel
theorem dX8_kind_60 : decode cX8_kind 60 = .ok (.ireturn, 1) := by decide +kernel
theorem dX8_kind_61 : decode cX8_kind 61 = .ok (.aload_n 0, 1) := by decide +kernel
theorem dX8_kind_62 : decode cX8_kind 62 = .ok (.aload_n 3, 1) := by decide +kernel
theorem dX8_kind_63 : decode cX8_kind 63 = .ok (.iconst 0, 1) := by decide +kernel
theorem dX8_kind_64 : decode cX8_kind 64 = .ok (.iconst 0, 1) := by decide +kernel
theorem dX8_kind_65 : decode cX8_kind 65 = .ok (.invokevirtual 279, 3) := by decide +kernel
theorem dX8_kind_68 : decode cX8_kind 68 = .ok (.invokestatic 148, 3) := by decide +kernel
theorem dX8_kind_71 : decode cX8_kind 71 = .ok (.ireturn, 1) := by decide +kernel
theorem dX8_kind_72 : decode cX8_kind 72 = .ok (.aload_n 0, 1) := by decide +kernel
theorem dX8_kind_73 : decode cX8_kind 73 = .ok (.aload_n 3, 1) := by decide +kernel
theorem dX8_kind_74 : decode cX8_kind 74 = .ok (.iconst 0, 1) := by decide +kernel
theorem dX8_kind_75 : decode cX8_kind 75 = .ok (.iconst 1, 1) := by decide +kernel
theorem dX8_kind_76 : decode cX8_kind 76 = .ok (.invokevirtual 279, 3) := by decide +kernel
theorem dX8_kind_79 : decode cX8_kind 79 = .ok (.invokestatic 148, 3) := by decide +kernel
theorem dX8_kind_82 : decode cX8_kind 82 = .ok (.ireturn, 1) := by decide +kernel
theorem dX8_kind_83 : decode cX8_kind 83 = .ok (.aload_n 0, 1) := by decide +kernel
theorem dX8_kind_84 : decode cX8_kind 84 = .ok (.aload_n 3, 1) := by decide +kernel
theorem dX8_kind_85 : decode cX8_kind 85 = .ok (.iconst 1, 1) := by decide +kernel
theorem dX8_kind_86 : decode cX8_kind 86 = .ok (.iconst 0, 1) := by decide +kernel
theorem dX8_kind_87 : decode cX8_kind 87 = .ok (.invokevirtual 279, 3) := by decide +kernel
theorem dX8_kind_90 : decode cX8_kind 90 = .ok (.invokestatic 148, 3) := by decide +kernel
theorem dX8_kind_93 : decode cX8_kind 93 = .ok (.ireturn, 1) := by decide +kernel
theorem dX8_kind_94 : decode cX8_kind 94 = .ok (.aload_n 0, 1) := by decide +kernel
theorem dX8_kind_95 : decode cX8_kind 95 = .ok (.aload_n 3, 1) := by decide +kernel
theorem dX8_kind_96 : decode cX8_kind 96 = .ok (.iconst 1, 1) := by decide +kernel
theorem dX8_kind_97 : decode cX8_kind 97 = .ok (.iconst 1, 1) := by decide +kernel
theorem dX8_kind_98 : decode cX8_kind 98 = .ok (.invokevirtual 279, 3) := by decide +kernel
theorem dX8_kind_101 : decode cX8_kind 101 = .ok (.invokestatic 148, 3) := by decide +kernel
theorem dX8_kind_104 : decode cX8_kind 104 = .ok (.ireturn, 1) := by decide +kernel
theorem dX8_kind_105 : decode cX8_kind 105 = .ok (.iconst (-1), 1) := by decide +kernel
theorem dX8_kind_106 : decode cX8_kind 106 = .ok (.ireturn, 1) := by decide +kernel
theorem dX8_cut_0 : decode cX8_cut 0 = .ok (.iload_n 1, 1) := by decide +kernel
theorem dX8_cut_1 : decode cX8_cut 1 = .ok (.invokestatic 88, 3) := by decide +kernel
theorem dX8_cut_4 : decode cX8_cut 4 = .ok (.ifCond .eq 28, 3) := by decide +kernel
theorem dX8_cut_7 : decode cX8_cut 7 = .ok (.iload_n 3, 1) := by decide +kernel
theorem dX8_cut_8 : decode cX8_cut 8 = .ok (.invokestatic 88, 3) := by decide +kernel
theorem dX8_cut_11 : decode cX8_cut 11 = .ok (.ifCond .eq 21, 3) := by decide +kernel
theorem dX8_cut_14 : decode cX8_cut 14 = .ok (.iload_n 2, 1) := by decide +kernel
theorem dX8_cut_15 : decode cX8_cut 15 = .ok (.ifCond .lt 17, 3) := by decide +kernel
theorem dX8_cut_18 : decode cX8_cut 18 = .ok (.iload_n 2, 1) := by decide +kernel
theorem dX8_cut_19 : decode cX8_cut 19 = .ok (.aload_n 0, 1) := by decide +kernel
theorem dX8_cut_20 : decode cX8_cut 20 = .ok (.getfield 47, 3) := by decide +kernel
theorem dX8_cut_23 : decode cX8_cut 23 = .ok (.getfield 152, 3) := by decide +kernel
theorem dX8_cut_26 : decode cX8_cut 26 = .ok (.getfield 236, 3) := by decide +kernel
theorem dX8_cut_29 : decode cX8_cut 29 = .ok (.if_icmp .lt 5, 3) := by decide +kernel
theorem dX8_cut_32 : decode cX8_cut 32 = .ok (.iconst (-1), 1) := by decide +kernel
theorem dX8_cut_33 : decode cX8_cut 33 = .ok (.ireturn, 1) := by decide +kernel
theorem dX8_cut_34 : decode cX8_cut 34 = .ok (.aload_n 0, 1) := by decide +kernel
theorem dX8_cut_35 : decode cX8_cut 35 = .ok (.getfield 26, 3) := by decide +kernel
theorem dX8_cut_38 : decode cX8_cut 38 = .ok (.lconst 0, 1) := by decide +kernel
theorem dX8_cut_39 : decode cX8_cut 39 = .ok (.invokestatic 68, 3) := by decide +kernel
theorem dX8_cut_42 : decode cX8_cut 42 = .ok (.iconst 0, 1) := by decide +kernel
theorem dX8_cut_43 : decode cX8_cut 43 = .ok (.istore 4, 2) := by decide +kernel
theorem dX8_cut_45 : decode cX8_cut 45 = .ok (.iload 4, 2) := by decide +kernel
theorem dX8_cut_47 : decode cX8_cut 47 = .ok (.aload_n 0, 1) := by decide +kernel
theorem dX8_cut_48 : decode cX8_cut 48 = .ok (.getfield 40, 3) := by decide +kernel
theorem dX8_cut_51 : decode cX8_cut 51 = .ok (.getfield 74, 3) := by decide +kernel
theorem dX8_cut_54 : decode cX8_cut 54 = .ok (.if_icmp .ge 80, 3) := by decide +kernel
theorem dX8_cut_57 : decode cX8_cut 57 = .ok (.aload_n 0, 1) := by decide +kernel
theorem dX8_cut_58 : decode cX8_cut 58 = .ok (.getfield 47, 3) := by decide +kernel
theorem dX8_cut_61 : decode cX8_cut 61 = .ok (.getfield 152, 3) := by decide +kernel
theorem dX8_cut_64 : decode cX8_cut 64 = .ok (.getfield 161, 3) := by decide +kernel
theorem dX8_cut_67 : decode cX8_cut 67 = .ok (.iload 4, 2) := by decide +kernel
theorem dX8_cut_69 : decode cX8_cut 69 = .ok (.iaload, 1) := by decide +kernel
theorem dX8_cut_70 : decode cX8_cut 70 = .ok (.iload_n 2, 1) := by decide +kernel
theorem dX8_cut_71 : decode cX8_cut 71 = .ok (.if_icmp .eq 6, 3) := by decide +kernel
theorem dX8_cut_74 : decode cX8_cut 74 = .ok (.goto 54, 3) := by decide +kernel
theorem dX8_cut_77 : decode cX8_cut 77 = .ok (.aload_n 0, 1) := by decide +kernel
theorem dX8_cut_78 : decode cX8_cut 78 = .ok (.aload_n 0, 1) := by decide +kernel
theorem dX8_cut_79 : decode cX8_cut 79 = .ok (.getfield 23, 3) := by decide +kernel
theorem dX8_cut_82 : decode cX8_cut 82 = .ok (.iload_n 1, 1) := by decide +kernel
theorem dX8_cut_83 : decode cX8_cut 83 = .ok (.aaload, 1) := by decide +kernel
theorem dX8_cut_84 : decode cX8_cut 84 = .ok (.iload 4, 2) := by decide +kernel
theorem dX8_cut_86 : decode cX8_cut 86 = .ok (.iconst 0, 1) := by decide +kernel
theorem dX8_cut_87 : decode cX8_cut 87 = .ok (.invokevirtual 256, 3) := by decide +kernel
theorem dX8_cut_90 : decode cX8_cut 90 = .ok (.lstore 5, 2) := by decide +kernel
theorem dX8_cut_92 : decode cX8_cut 92 = .ok (.aload_n 0, 1) := by decide +kernel
theorem dX8_cut_93 : decode cX8_cut 93 = .ok (.lload 5, 2) := by decide +kernel
theorem dX8_cut_95 : decode cX8_cut 95 = .ok (.invokevirtual 283, 3) := by decide +kernel
theorem dX8_cut_98 : decode cX8_cut 98 = .ok (.ifCond .ne 5, 3) := by decide +kernel
theorem dX8_cut_101 : decode cX8_cut 101 = .ok (.iconst (-1), 1) := by decide +kernel
theorem dX8_cut_102 : decode cX8_cut 102 = .ok (.ireturn, 1) := by decide +kernel
theorem dX8_cut_103 : decode cX8_cut 103 = .ok (.aload_n 0, 1) := by decide +kernel
theorem dX8_cut_104 : decode cX8_cut 104 = .ok (.lload 5, 2) := by decide +kernel
theorem dX8_cut_106 : decode cX8_cut 106 = .ok (.aload_n 0, 1) := by decide +kernel
theorem dX8_cut_107 : decode cX8_cut 107 = .ok (.getfield 40, 3) := by decide +kernel
theorem dX8_cut_110 : decode cX8_cut 110 = .ok (.getfield 266, 3) := by decide +kernel
theorem dX8_cut_113 : decode cX8_cut 113 = .ok (.i2l, 1) := by decide +kernel
theorem dX8_cut_114 : decode cX8_cut 114 = .ok (.ldiv, 1) := by decide +kernel
theorem dX8_cut_115 : decode cX8_cut 115 = .ok (.aload_n 0, 1) := by decide +kernel
theorem dX8_cut_116 : decode cX8_cut 116 = .ok (.getfield 40, 3) := by decide +kernel
theorem dX8_cut_119 : decode cX8_cut 119 = .ok (.getfield 209, 3) := by decide +kernel
theorem dX8_cut_122 : decode cX8_cut 122 = .ok (.iload 4, 2) := by decide +kernel
theorem dX8_cut_124 : decode cX8_cut 124 = .ok (.aaload, 1) := by decide +kernel
theorem dX8_cut_125 : decode cX8_cut 125 = .ok (.invokevirtual 287, 3) := by decide +kernel
theorem dX8_cut_128 : decode cX8_cut 128 = .ok (.iinc 4 1, 3) := by decide +kernel
theorem dX8_cut_131 : decode cX8_cut 131 = .ok (.goto (-86), 3) := by decide +kernel
theorem dX8_cut_134 : decode cX8_cut 134 = .ok (.aload_n 0, 1) := by decide +kernel
theorem dX8_cut_135 : decode cX8_cut 135 = .ok (.getfield 26, 3) := by decide +kernel
theorem dX8_cut_138 : decode cX8_cut 138 = .ok (.iconst 0, 1) := by decide +kernel
theorem dX8_cut_139 : decode cX8_cut 139 = .ok (.aload_n 0, 1) := by decide +kernel
theorem dX8_cut_140 : decode cX8_cut 140 = .ok (.getfield 23, 3) := by decide +kernel
theorem dX8_cut_143 : decode cX8_cut 143 = .ok (.iload_n 3, 1) := by decide +kernel
theorem dX8_cut_144 : decode cX8_cut 144 = .ok (.aaload, 1) := by decide +kernel
theorem dX8_cut_145 : decode cX8_cut 145 = .ok (.iconst 0, 1) := by decide +kernel
theorem dX8_cut_146 : decode cX8_cut 146 = .ok (.bipush 11, 2) := by decide +kernel
theorem dX8_cut_148 : decode cX8_cut 148 = .ok (.invokestatic 107, 3) := by decide +kernel
theorem dX8_cut_151 : decode cX8_cut 151 = .ok (.iconst 0, 1) := by decide +kernel
theorem dX8_cut_152 : decode cX8_cut 152 = .ok (.ireturn, 1) := by decide +kernel
theorem dX8_look_0 : decode cX8_look 0 = .ok (.iload_n 1, 1) := by decide +kernel
theorem dX8_look_1 : decode cX8_look 1 = .ok (.tableswitch 126 0 8 #[51, 59, 67, 75, 83, 94, 102, 110, 115], 51) := by decide +kernel
theorem dX8_look_52 : decode cX8_look 52 = .ok (.aload_n 0, 1) := by decide +kernel
theorem dX8_look_53 : decode cX8_look 53 = .ok (.getfield 40, 3) := by decide +kernel
theorem dX8_look_56 : decode cX8_look 56 = .ok (.getfield 176, 3) := by decide +kernel
theorem dX8_look_59 : decode cX8_look 59 = .ok (.ireturn, 1) := by decide +kernel
theorem dX8_look_60 : decode cX8_look 60 = .ok (.aload_n 0, 1) := by decide +kernel
theorem dX8_look_61 : decode cX8_look 61 = .ok (.getfield 47, 3) := by decide +kernel
theorem dX8_look_64 : decode cX8_look 64 = .ok (.getfield 179, 3) := by decide +kernel
theorem dX8_look_67 : decode cX8_look 67 = .ok (.ireturn, 1) := by decide +kernel
theorem dX8_look_68 : decode cX8_look 68 = .ok (.aload_n 0, 1) := by decide +kernel
theorem dX8_look_69 : decode cX8_look 69 = .ok (.getfield 40, 3) := by decide +kernel
theorem dX8_look_72 : decode cX8_look 72 = .ok (.getfield 74, 3) := by decide +kernel
theorem dX8_look_75 : decode cX8_look 75 = .ok (.ireturn, 1) := by decide +kernel
theorem dX8_look_76 : decode cX8_look 76 = .ok (.aload_n 0, 1) := by decide +kernel
theorem dX8_look_77 : decode cX8_look 77 = .ok (.getfield 47, 3) := by decide +kernel
theorem dX8_look_80 : decode cX8_look 80 = .ok (.getfield 291, 3) := by decide +kernel
theorem dX8_look_83 : decode cX8_look 83 = .ok (.ireturn, 1) := by decide +kernel
theorem dX8_look_84 : decode cX8_look 84 = .ok (.aload_n 0, 1) := by decide +kernel
theorem dX8_look_85 : decode cX8_look 85 = .ok (.getfield 47, 3) := by decide +kernel
theorem dX8_look_88 : decode cX8_look 88 = .ok (.getfield 152, 3) := by decide +kernel
theorem dX8_look_91 : decode cX8_look 91 = .ok (.getfield 236, 3) := by decide +kernel
theorem dX8_look_94 : decode cX8_look 94 = .ok (.ireturn, 1) := by decide +kernel
theorem dX8_look_95 : decode cX8_look 95 = .ok (.aload_n 0, 1) := by decide +kernel
theorem dX8_look_96 : decode cX8_look 96 = .ok (.getfield 40, 3) := by decide +kernel
theorem dX8_look_99 : decode cX8_look 99 = .ok (.getfield 266, 3) := by decide +kernel
theorem dX8_look_102 : decode cX8_look 102 = .ok (.ireturn, 1) := by decide +kernel
theorem dX8_look_103 : decode cX8_look 103 = .ok (.aload_n 0, 1) := by decide +kernel
theorem dX8_look_104 : decode cX8_look 104 = .ok (.getfield 33, 3) := by decide +kernel
theorem dX8_look_107 : decode cX8_look 107 = .ok (.getfield 85, 3) := by decide +kernel
theorem dX8_look_110 : decode cX8_look 110 = .ok (.ireturn, 1) := by decide +kernel
theorem dX8_look_111 : decode cX8_look 111 = .ok (.aload_n 0, 1) := by decide +kernel
theorem dX8_look_112 : decode cX8_look 112 = .ok (.invokevirtual 294, 3) := by decide +kernel
theorem dX8_look_115 : decode cX8_look 115 = .ok (.ireturn, 1) := by decide +kernel
theorem dX8_look_116 : decode cX8_look 116 = .ok (.aload_n 0, 1) := by decide +kernel
theorem dX8_look_117 : decode cX8_look 117 = .ok (.getfield 47, 3) := by decide +kernel
theorem dX8_look_120 : decode cX8_look 120 = .ok (.getfield 152, 3) := by decide +kernel
theorem dX8_look_123 : decode cX8_look 123 = .ok (.invokevirtual 298, 3) := by decide +kernel
theorem dX8_look_126 : decode cX8_look 126 = .ok (.ireturn, 1) := by decide +kernel
theorem dX8_look_127 : decode cX8_look 127 = .ok (.iconst (-1), 1) := by decide +kernel
theorem dX8_look_128 : decode cX8_look 128 = .ok (.ireturn, 1) := by decide +kernel
theorem dX8_isPartition_0 : decode cX8_isPartition 0 = .ok (.iload_n 1, 1) := by decide +kernel
theorem dX8_isPartition_1 : decode cX8_isPartition 1 = .ok (.ifCond .lt 18, 3) := by decide +kernel
theorem dX8_isPartition_4 : decode cX8_isPartition 4 = .ok (.iload_n 1, 1) := by decide +kernel
theorem dX8_isPartition_5 : decode cX8_isPartition 5 = .ok (.aload_n 0, 1) := by decide +kernel
theorem dX8_isPartition_6 : decode cX8_isPartition 6 = .ok (.getfield 40, 3) := by decide +kernel
theorem dX8_isPartition_9 : decode cX8_isPartition 9 = .ok (.getfield 74, 3) := by decide +kernel
theorem dX8_isPartition_12 : decode cX8_isPartition 12 = .ok (.if_icmp .ge 7, 3) := by decide +kernel
theorem dX8_isPartition_15 : decode cX8_isPartition 15 = .ok (.iconst 1, 1) := by decide +kernel
theorem dX8_isPartition_16 : decode cX8_isPartition 16 = .ok (.goto 4, 3) := by decide +kernel
theorem dX8_isPartition_19 : decode cX8_isPartition 19 = .ok (.iconst 0, 1) := by decide +kernel
theorem dX8_isPartition_20 : decode cX8_isPartition 20 = .ok (.ireturn, 1) := by decide +kernel
theorem dX8_isRegularPartition_0 : decode cX8_isRegularPartition 0 = .ok (.aload_n 0, 1) := by decide +kernel
theorem dX8_isRegularPartition_1 : decode cX8_isRegularPartition 1 = .ok (.iload_n 1, 1) := by decide +kernel
theorem dX8_isRegularPartition_2 : decode cX8_isRegularPartition 2 = .ok (.invokevirtual 126, 3) := by decide +kernel
theorem dX8_isRegularPartition_5 : decode cX8_isRegularPartition 5 = .ok (.ifCond .eq 18, 3) := by decide +kernel
theorem dX8_isRegularPartition_8 : decode cX8_isRegularPartition 8 = .ok (.aload_n 0, 1) := by decide +kernel
theorem dX8_isRegularPartition_9 : decode cX8_isRegularPartition 9 = .ok (.getfield 47, 3) := by decide +kernel
theorem dX8_isRegularPartition_12 : decode cX8_isRegularPartition 12 = .ok (.iload_n 1, 1) := by decide +kernel
theorem dX8_isRegularPartition_13 : decode cX8_isRegularPartition 13 = .ok (.invokevirtual 145, 3) := by decide +kernel
theorem dX8_isRegularPartition_16 : decode cX8_isRegularPartition 16 = .ok (.ifCond .eq 7, 3) := by decide +kernel
theorem dX8_isRegularPartition_19 : decode cX8_isRegularPartition 19 = .ok (.iconst 1, 1) := by decide +kernel
theorem dX8_isRegularPartition_20 : decode cX8_isRegularPartition 20 = .ok (.goto 4, 3) := by decide +kernel
theorem dX8_isRegularPartition_23 : decode cX8_isRegularPartition 23 = .ok (.iconst 0, 1) := by decide +kernel
theorem dX8_isRegularPartition_24 : decode cX8_isRegularPartition 24 = .ok (.ireturn, 1) := by decide +kernel
theorem dX8_slotsInUse_0 : decode cX8_slotsInUse 0 = .ok (.iconst 0, 1) := by decide +kernel
theorem dX8_slotsInUse_1 : decode cX8_slotsInUse 1 = .ok (.istore_n 1, 1) := by decide +kernel
theorem dX8_slotsInUse_2 : decode cX8_slotsInUse 2 = .ok (.iconst 0, 1) := by decide +kernel
theorem dX8_slotsInUse_3 : decode cX8_slotsInUse 3 = .ok (.istore_n 2, 1) := by decide +kernel
theorem dX8_slotsInUse_4 : decode cX8_slotsInUse 4 = .ok (.iload_n 2, 1) := by decide +kernel
theorem dX8_slotsInUse_5 : decode cX8_slotsInUse 5 = .ok (.bipush 6, 2) := by decide +kernel
theorem dX8_slotsInUse_7 : decode cX8_slotsInUse 7 = .ok (.if_icmp .ge 47, 3) := by decide +kernel
theorem dX8_slotsInUse_10 : decode cX8_slotsInUse 10 = .ok (.iconst 0, 1) := by decide +kernel
theorem dX8_slotsInUse_11 : decode cX8_slotsInUse 11 = .ok (.istore_n 3, 1) := by decide +kernel
theorem dX8_slotsInUse_12 : decode cX8_slotsInUse 12 = .ok (.iload_n 3, 1) := by decide +kernel
theorem dX8_slotsInUse_13 : decode cX8_slotsInUse 13 = .ok (.aload_n 0, 1) := by decide +kernel
theorem dX8_slotsInUse_14 : decode cX8_slotsInUse 14 = .ok (.getfield 40, 3) := by decide +kernel
theorem dX8_slotsInUse_17 : decode cX8_slotsInUse 17 = .ok (.getfield 74, 3) := by decide +kernel
theorem dX8_slotsInUse_20 : decode cX8_slotsInUse 20 = .ok (.if_icmp .ge 28, 3) := by decide +kernel
theorem dX8_slotsInUse_23 : decode cX8_slotsInUse 23 = .ok (.aload_n 0, 1) := by decide +kernel
theorem dX8_slotsInUse_24 : decode cX8_slotsInUse 24 = .ok (.getfield 23, 3) := by decide +kernel
theorem dX8_slotsInUse_27 : decode cX8_slotsInUse 27 = .ok (.iload_n 2, 1) := by decide +kernel
theorem dX8_slotsInUse_28 : decode cX8_slotsInUse 28 = .ok (.aaload, 1) := by decide +kernel
theorem dX8_slotsInUse_29 : decode cX8_slotsInUse 29 = .ok (.iload_n 3, 1) := by decide +kernel
theorem dX8_slotsInUse_30 : decode cX8_slotsInUse 30 = .ok (.laload, 1) := by decide +kernel
theorem dX8_slotsInUse_31 : decode cX8_slotsInUse 31 = .ok (.lconst 0, 1) := by decide +kernel
theorem dX8_slotsInUse_32 : decode cX8_slotsInUse 32 = .ok (.lcmp, 1) := by decide +kernel
theorem dX8_slotsInUse_33 : decode cX8_slotsInUse 33 = .ok (.ifCond .eq 9, 3) := by decide +kernel
theorem dX8_slotsInUse_36 : decode cX8_slotsInUse 36 = .ok (.iload_n 1, 1) := by decide +kernel
theorem dX8_slotsInUse_37 : decode cX8_slotsInUse 37 = .ok (.iconst 1, 1) := by decide +kernel
theorem dX8_slotsInUse_38 : decode cX8_slotsInUse 38 = .ok (.iload_n 2, 1) := by decide +kernel
theorem dX8_slotsInUse_39 : decode cX8_slotsInUse 39 = .ok (.ishl, 1) := by decide +kernel
theorem dX8_slotsInUse_40 : decode cX8_slotsInUse 40 = .ok (.ior, 1) := by decide +kernel
theorem dX8_slotsInUse_41 : decode cX8_slotsInUse 41 = .ok (.istore_n 1, 1) := by decide +kernel
theorem dX8_slotsInUse_42 : decode cX8_slotsInUse 42 = .ok (.iinc 3 1, 3) := by decide +kernel
theorem dX8_slotsInUse_45 : decode cX8_slotsInUse 45 = .ok (.goto (-33), 3) := by decide +kernel
theorem dX8_slotsInUse_48 : decode cX8_slotsInUse 48 = .ok (.iinc 2 1, 3) := by decide +kernel
theorem dX8_slotsInUse_51 : decode cX8_slotsInUse 51 = .ok (.goto (-47), 3) := by decide +kernel
theorem dX8_slotsInUse_54 : decode cX8_slotsInUse 54 = .ok (.iload_n 1, 1) := by decide +kernel
theorem dX8_slotsInUse_55 : decode cX8_slotsInUse 55 = .ok (.ireturn, 1) := by decide +kernel
theorem dX8_isZeroOffRegular_0 : decode cX8_isZeroOffRegular 0 = .ok (.iconst 0, 1) := by decide +kernel
theorem dX8_isZeroOffRegular_1 : decode cX8_isZeroOffRegular 1 = .ok (.istore_n 2, 1) := by decide +kernel
theorem dX8_isZeroOffRegular_2 : decode cX8_isZeroOffRegular 2 = .ok (.iload_n 2, 1) := by decide +kernel
theorem dX8_isZeroOffRegular_3 : decode cX8_isZeroOffRegular 3 = .ok (.aload_n 0, 1) := by decide +kernel
theorem dX8_isZeroOffRegular_4 : decode cX8_isZeroOffRegular 4 = .ok (.getfield 40, 3) := by decide +kernel
theorem dX8_isZeroOffRegular_7 : decode cX8_isZeroOffRegular 7 = .ok (.getfield 74, 3) := by decide +kernel
theorem dX8_isZeroOffRegular_10 : decode cX8_isZeroOffRegular 10 = .ok (.if_icmp .ge 31, 3) := by decide +kernel
theorem dX8_isZeroOffRegular_13 : decode cX8_isZeroOffRegular 13 = .ok (.aload_n 0, 1) := by decide +kernel
theorem dX8_isZeroOffRegular_14 : decode cX8_isZeroOffRegular 14 = .ok (.getfield 47, 3) := by decide +kernel
theorem dX8_isZeroOffRegular_17 : decode cX8_isZeroOffRegular 17 = .ok (.getfield 199, 3) := by decide +kernel
theorem dX8_isZeroOffRegular_20 : decode cX8_isZeroOffRegular 20 = .ok (.iload_n 2, 1) := by decide +kernel
theorem dX8_isZeroOffRegular_21 : decode cX8_isZeroOffRegular 21 = .ok (.baload, 1) := by decide +kernel
theorem dX8_isZeroOffRegular_22 : decode cX8_isZeroOffRegular 22 = .ok (.ifCond .ne 13, 3) := by decide +kernel
theorem dX8_isZeroOffRegular_25 : decode cX8_isZeroOffRegular 25 = .ok (.aload_n 1, 1) := by decide +kernel
theorem dX8_isZeroOffRegular_26 : decode cX8_isZeroOffRegular 26 = .ok (.iload_n 2, 1) := by decide +kernel
theorem dX8_isZeroOffRegular_27 : decode cX8_isZeroOffRegular 27 = .ok (.laload, 1) := by decide +kernel
theorem dX8_isZeroOffRegular_28 : decode cX8_isZeroOffRegular 28 = .ok (.lconst 0, 1) := by decide +kernel
theorem dX8_isZeroOffRegular_29 : decode cX8_isZeroOffRegular 29 = .ok (.lcmp, 1) := by decide +kernel
theorem dX8_isZeroOffRegular_30 : decode cX8_isZeroOffRegular 30 = .ok (.ifCond .eq 5, 3) := by decide +kernel
theorem dX8_isZeroOffRegular_33 : decode cX8_isZeroOffRegular 33 = .ok (.iconst 0, 1) := by decide +kernel
theorem dX8_isZeroOffRegular_34 : decode cX8_isZeroOffRegular 34 = .ok (.ireturn, 1) := by decide +kernel
theorem dX8_isZeroOffRegular_35 : decode cX8_isZeroOffRegular 35 = .ok (.iinc 2 1, 3) := by decide +kernel
theorem dX8_isZeroOffRegular_38 : decode cX8_isZeroOffRegular 38 = .ok (.goto (-36), 3) := by decide +kernel
theorem dX8_isZeroOffRegular_41 : decode cX8_isZeroOffRegular 41 = .ok (.iconst 1, 1) := by decide +kernel
theorem dX8_isZeroOffRegular_42 : decode cX8_isZeroOffRegular 42 = .ok (.ireturn, 1) := by decide +kernel
theorem dX8_isWhole_0 : decode cX8_isWhole 0 = .ok (.iconst 0, 1) := by decide +kernel
theorem dX8_isWhole_1 : decode cX8_isWhole 1 = .ok (.istore 4, 2) := by decide +kernel
theorem dX8_isWhole_3 : decode cX8_isWhole 3 = .ok (.iload 4, 2) := by decide +kernel
theorem dX8_isWhole_5 : decode cX8_isWhole 5 = .ok (.aload_n 0, 1) := by decide +kernel
theorem dX8_isWhole_6 : decode cX8_isWhole 6 = .ok (.getfield 40, 3) := by decide +kernel
theorem dX8_isWhole_9 : decode cX8_isWhole 9 = .ok (.getfield 74, 3) := by decide +kernel
theorem dX8_isWhole_12 : decode cX8_isWhole 12 = .ok (.if_icmp .ge 60, 3) := by decide +kernel
theorem dX8_isWhole_15 : decode cX8_isWhole 15 = .ok (.iload_n 2, 1) := by decide +kernel
theorem dX8_isWhole_16 : decode cX8_isWhole 16 = .ok (.ifCond .eq 18, 3) := by decide +kernel
theorem dX8_isWhole_19 : decode cX8_isWhole 19 = .ok (.aload_n 0, 1) := by decide +kernel
theorem dX8_isWhole_20 : decode cX8_isWhole 20 = .ok (.getfield 47, 3) := by decide +kernel
theorem dX8_isWhole_23 : decode cX8_isWhole 23 = .ok (.iload 4, 2) := by decide +kernel
theorem dX8_isWhole_25 : decode cX8_isWhole 25 = .ok (.invokevirtual 145, 3) := by decide +kernel
theorem dX8_isWhole_28 : decode cX8_isWhole 28 = .ok (.ifCond .ne 6, 3) := by decide +kernel
theorem dX8_isWhole_31 : decode cX8_isWhole 31 = .ok (.goto 35, 3) := by decide +kernel
theorem dX8_isWhole_34 : decode cX8_isWhole 34 = .ok (.aload_n 0, 1) := by decide +kernel
theorem dX8_isWhole_35 : decode cX8_isWhole 35 = .ok (.aload_n 1, 1) := by decide +kernel
theorem dX8_isWhole_36 : decode cX8_isWhole 36 = .ok (.iload 4, 2) := by decide +kernel
theorem dX8_isWhole_38 : decode cX8_isWhole 38 = .ok (.iload_n 2, 1) := by decide +kernel
theorem dX8_isWhole_39 : decode cX8_isWhole 39 = .ok (.invokevirtual 256, 3) := by decide +kernel
theorem dX8_isWhole_42 : decode cX8_isWhole 42 = .ok (.lstore 5, 2) := by decide +kernel
theorem dX8_isWhole_44 : decode cX8_isWhole 44 = .ok (.aload_n 0, 1) := by decide +kernel
theorem dX8_isWhole_45 : decode cX8_isWhole 45 = .ok (.lload 5, 2) := by decide +kernel
theorem dX8_isWhole_47 : decode cX8_isWhole 47 = .ok (.invokevirtual 283, 3) := by decide +kernel
theorem dX8_isWhole_50 : decode cX8_isWhole 50 = .ok (.ifCond .eq 14, 3) := by decide +kernel
theorem dX8_isWhole_53 : decode cX8_isWhole 53 = .ok (.iload_n 3, 1) := by decide +kernel
theorem dX8_isWhole_54 : decode cX8_isWhole 54 = .ok (.ifCond .eq 12, 3) := by decide +kernel
theorem dX8_isWhole_57 : decode cX8_isWhole 57 = .ok (.lload 5, 2) := by decide +kernel
theorem dX8_isWhole_59 : decode cX8_isWhole 59 = .ok (.lconst 0, 1) := by decide +kernel
theorem dX8_isWhole_60 : decode cX8_isWhole 60 = .ok (.lcmp, 1) := by decide +kernel
theorem dX8_isWhole_61 : decode cX8_isWhole 61 = .ok (.ifCond .ge 5, 3) := by decide +kernel
theorem dX8_isWhole_64 : decode cX8_isWhole 64 = .ok (.iconst 0, 1) := by decide +kernel
theorem dX8_isWhole_65 : decode cX8_isWhole 65 = .ok (.ireturn, 1) := by decide +kernel
theorem dX8_isWhole_66 : decode cX8_isWhole 66 = .ok (.iinc 4 1, 3) := by decide +kernel
theorem dX8_isWhole_69 : decode cX8_isWhole 69 = .ok (.goto (-66), 3) := by decide +kernel
theorem dX8_isWhole_72 : decode cX8_isWhole 72 = .ok (.iconst 1, 1) := by decide +kernel
theorem dX8_isWhole_73 : decode cX8_isWhole 73 = .ok (.ireturn, 1) := by decide +kernel
theorem dX8_timesFactorial_0 : decode cX8_timesFactorial 0 = .ok (.iload_n 3, 1) := by decide +kernel
theorem dX8_timesFactorial_1 : decode cX8_timesFactorial 1 = .ok (.ifCond .eq 15, 3) := by decide +kernel
theorem dX8_timesFactorial_4 : decode cX8_timesFactorial 4 = .ok (.aload_n 0, 1) := by decide +kernel
theorem dX8_timesFactorial_5 : decode cX8_timesFactorial 5 = .ok (.getfield 47, 3) := by decide +kernel
theorem dX8_timesFactorial_8 : decode cX8_timesFactorial 8 = .ok (.getfield 218, 3) := by decide +kernel
theorem dX8_timesFactorial_11 : decode cX8_timesFactorial 11 = .ok (.iload_n 2, 1) := by decide +kernel
theorem dX8_timesFactorial_12 : decode cX8_timesFactorial 12 = .ok (.aaload, 1) := by decide +kernel
theorem dX8_timesFactorial_13 : decode cX8_timesFactorial 13 = .ok (.goto 12, 3) := by decide +kernel
theorem dX8_timesFactorial_16 : decode cX8_timesFactorial 16 = .ok (.aload_n 0, 1) := by decide +kernel
theorem dX8_timesFactorial_17 : decode cX8_timesFactorial 17 = .ok (.getfield 40, 3) := by decide +kernel
theorem dX8_timesFactorial_20 : decode cX8_timesFactorial 20 = .ok (.getfield 209, 3) := by decide +kernel
theorem dX8_timesFactorial_23 : decode cX8_timesFactorial 23 = .ok (.iload_n 2, 1) := by decide +kernel
theorem dX8_timesFactorial_24 : decode cX8_timesFactorial 24 = .ok (.aaload, 1) := by decide +kernel
theorem dX8_timesFactorial_25 : decode cX8_timesFactorial 25 = .ok (.astore 4, 2) := by decide +kernel
theorem dX8_timesFactorial_27 : decode cX8_timesFactorial 27 = .ok (.lconst 0, 1) := by decide +kernel
theorem dX8_timesFactorial_28 : decode cX8_timesFactorial 28 = .ok (.lstore 5, 2) := by decide +kernel
theorem dX8_timesFactorial_30 : decode cX8_timesFactorial 30 = .ok (.iconst 0, 1) := by decide +kernel
theorem dX8_timesFactorial_31 : decode cX8_timesFactorial 31 = .ok (.istore 7, 2) := by decide +kernel
theorem dX8_timesFactorial_33 : decode cX8_timesFactorial 33 = .ok (.iload 7, 2) := by decide +kernel
theorem dX8_timesFactorial_35 : decode cX8_timesFactorial 35 = .ok (.aload_n 0, 1) := by decide +kernel
theorem dX8_timesFactorial_36 : decode cX8_timesFactorial 36 = .ok (.getfield 40, 3) := by decide +kernel
theorem dX8_timesFactorial_39 : decode cX8_timesFactorial 39 = .ok (.getfield 74, 3) := by decide +kernel
theorem dX8_timesFactorial_42 : decode cX8_timesFactorial 42 = .ok (.if_icmp .ge 37, 3) := by decide +kernel
theorem dX8_timesFactorial_45 : decode cX8_timesFactorial 45 = .ok (.lload 5, 2) := by decide +kernel
theorem dX8_timesFactorial_47 : decode cX8_timesFactorial 47 = .ok (.aload_n 1, 1) := by decide +kernel
theorem dX8_timesFactorial_48 : decode cX8_timesFactorial 48 = .ok (.iload 7, 2) := by decide +kernel
theorem dX8_timesFactorial_50 : decode cX8_timesFactorial 50 = .ok (.laload, 1) := by decide +kernel
theorem dX8_timesFactorial_51 : decode cX8_timesFactorial 51 = .ok (.aload_n 0, 1) := by decide +kernel
theorem dX8_timesFactorial_52 : decode cX8_timesFactorial 52 = .ok (.getfield 40, 3) := by decide +kernel
theorem dX8_timesFactorial_55 : decode cX8_timesFactorial 55 = .ok (.getfield 193, 3) := by decide +kernel
theorem dX8_timesFactorial_58 : decode cX8_timesFactorial 58 = .ok (.iload 7, 2) := by decide +kernel
theorem dX8_timesFactorial_60 : decode cX8_timesFactorial 60 = .ok (.iaload, 1) := by decide +kernel
theorem dX8_timesFactorial_61 : decode cX8_timesFactorial 61 = .ok (.i2l, 1) := by decide +kernel
theorem dX8_timesFactorial_62 : decode cX8_timesFactorial 62 = .ok (.lmul, 1) := by decide +kernel
theorem dX8_timesFactorial_63 : decode cX8_timesFactorial 63 = .ok (.aload 4, 2) := by decide +kernel
theorem dX8_timesFactorial_65 : decode cX8_timesFactorial 65 = .ok (.iload 7, 2) := by decide +kernel
theorem dX8_timesFactorial_67 : decode cX8_timesFactorial 67 = .ok (.iaload, 1) := by decide +kernel
theorem dX8_timesFactorial_68 : decode cX8_timesFactorial 68 = .ok (.i2l, 1) := by decide +kernel
theorem dX8_timesFactorial_69 : decode cX8_timesFactorial 69 = .ok (.lmul, 1) := by decide +kernel
theorem dX8_timesFactorial_70 : decode cX8_timesFactorial 70 = .ok (.ladd, 1) := by decide +kernel
theorem dX8_timesFactorial_71 : decode cX8_timesFactorial 71 = .ok (.lstore 5, 2) := by decide +kernel
theorem dX8_timesFactorial_73 : decode cX8_timesFactorial 73 = .ok (.iinc 7 1, 3) := by decide +kernel
theorem dX8_timesFactorial_76 : decode cX8_timesFactorial 76 = .ok (.goto (-43), 3) := by decide +kernel
theorem dX8_timesFactorial_79 : decode cX8_timesFactorial 79 = .ok (.lload 5, 2) := by decide +kernel
theorem dX8_timesFactorial_81 : decode cX8_timesFactorial 81 = .ok (.lreturn, 1) := by decide +kernel
theorem dX8_isWholeTimes_0 : decode cX8_isWholeTimes 0 = .ok (.aload_n 0, 1) := by decide +kernel
theorem dX8_isWholeTimes_1 : decode cX8_isWholeTimes 1 = .ok (.getfield 40, 3) := by decide +kernel
theorem dX8_isWholeTimes_4 : decode cX8_isWholeTimes 4 = .ok (.getfield 266, 3) := by decide +kernel
theorem dX8_isWholeTimes_7 : decode cX8_isWholeTimes 7 = .ok (.ifCond .le 22, 3) := by decide +kernel
theorem dX8_isWholeTimes_10 : decode cX8_isWholeTimes 10 = .ok (.lload_n 1, 1) := by decide +kernel
theorem dX8_isWholeTimes_11 : decode cX8_isWholeTimes 11 = .ok (.aload_n 0, 1) := by decide +kernel
theorem dX8_isWholeTimes_12 : decode cX8_isWholeTimes 12 = .ok (.getfield 40, 3) := by decide +kernel
theorem dX8_isWholeTimes_15 : decode cX8_isWholeTimes 15 = .ok (.getfield 266, 3) := by decide +kernel
theorem dX8_isWholeTimes_18 : decode cX8_isWholeTimes 18 = .ok (.i2l, 1) := by decide +kernel
theorem dX8_isWholeTimes_19 : decode cX8_isWholeTimes 19 = .ok (.lrem, 1) := by decide +kernel
theorem dX8_isWholeTimes_20 : decode cX8_isWholeTimes 20 = .ok (.lconst 0, 1) := by decide +kernel
theorem dX8_isWholeTimes_21 : decode cX8_isWholeTimes 21 = .ok (.lcmp, 1) := by decide +kernel
theorem dX8_isWholeTimes_22 : decode cX8_isWholeTimes 22 = .ok (.ifCond .ne 7, 3) := by decide +kernel
theorem dX8_isWholeTimes_25 : decode cX8_isWholeTimes 25 = .ok (.iconst 1, 1) := by decide +kernel
theorem dX8_isWholeTimes_26 : decode cX8_isWholeTimes 26 = .ok (.goto 4, 3) := by decide +kernel
theorem dX8_isWholeTimes_29 : decode cX8_isWholeTimes 29 = .ok (.iconst 0, 1) := by decide +kernel
theorem dX8_isWholeTimes_30 : decode cX8_isWholeTimes 30 = .ok (.ireturn, 1) := by decide +kernel
theorem dX8_addTimes_0 : decode cX8_addTimes 0 = .ok (.iconst 0, 1) := by decide +kernel
theorem dX8_addTimes_1 : decode cX8_addTimes 1 = .ok (.istore 4, 2) := by decide +kernel
theorem dX8_addTimes_3 : decode cX8_addTimes 3 = .ok (.iload 4, 2) := by decide +kernel
theorem dX8_addTimes_5 : decode cX8_addTimes 5 = .ok (.aload_n 0, 1) := by decide +kernel
theorem dX8_addTimes_6 : decode cX8_addTimes 6 = .ok (.getfield 40, 3) := by decide +kernel
theorem dX8_addTimes_9 : decode cX8_addTimes 9 = .ok (.getfield 74, 3) := by decide +kernel
theorem dX8_addTimes_12 : decode cX8_addTimes 12 = .ok (.if_icmp .ge 26, 3) := by decide +kernel
theorem dX8_addTimes_15 : decode cX8_addTimes 15 = .ok (.aload_n 0, 1) := by decide +kernel
theorem dX8_addTimes_16 : decode cX8_addTimes 16 = .ok (.getfield 26, 3) := by decide +kernel
theorem dX8_addTimes_19 : decode cX8_addTimes 19 = .ok (.iload 4, 2) := by decide +kernel
theorem dX8_addTimes_21 : decode cX8_addTimes 21 = .ok (.dup2, 1) := by decide +kernel
theorem dX8_addTimes_22 : decode cX8_addTimes 22 = .ok (.laload, 1) := by decide +kernel
theorem dX8_addTimes_23 : decode cX8_addTimes 23 = .ok (.lload_n 1, 1) := by decide +kernel
theorem dX8_addTimes_24 : decode cX8_addTimes 24 = .ok (.aload_n 3, 1) := by decide +kernel
theorem dX8_addTimes_25 : decode cX8_addTimes 25 = .ok (.iload 4, 2) := by decide +kernel
theorem dX8_addTimes_27 : decode cX8_addTimes 27 = .ok (.iaload, 1) := by decide +kernel
theorem dX8_addTimes_28 : decode cX8_addTimes 28 = .ok (.i2l, 1) := by decide +kernel
theorem dX8_addTimes_29 : decode cX8_addTimes 29 = .ok (.lmul, 1) := by decide +kernel
theorem dX8_addTimes_30 : decode cX8_addTimes 30 = .ok (.ladd, 1) := by decide +kernel
theorem dX8_addTimes_31 : decode cX8_addTimes 31 = .ok (.lastore, 1) := by decide +kernel
theorem dX8_addTimes_32 : decode cX8_addTimes 32 = .ok (.iinc 4 1, 3) := by decide +kernel
theorem dX8_addTimes_35 : decode cX8_addTimes 35 = .ok (.goto (-32), 3) := by decide +kernel
theorem dX8_addTimes_38 : decode cX8_addTimes 38 = .ok (.return_, 1) := by decide +kernel
theorem dX8_isSlot_0 : decode cX8_isSlot 0 = .ok (.iload_n 0, 1) := by decide +kernel
theorem dX8_isSlot_1 : decode cX8_isSlot 1 = .ok (.ifCond .lt 13, 3) := by decide +kernel
theorem dX8_isSlot_4 : decode cX8_isSlot 4 = .ok (.iload_n 0, 1) := by decide +kernel
theorem dX8_isSlot_5 : decode cX8_isSlot 5 = .ok (.bipush 6, 2) := by decide +kernel
theorem dX8_isSlot_7 : decode cX8_isSlot 7 = .ok (.if_icmp .ge 7, 3) := by decide +kernel
theorem dX8_isSlot_10 : decode cX8_isSlot 10 = .ok (.iconst 1, 1) := by decide +kernel
theorem dX8_isSlot_11 : decode cX8_isSlot 11 = .ok (.goto 4, 3) := by decide +kernel
theorem dX8_isSlot_14 : decode cX8_isSlot 14 = .ok (.iconst 0, 1) := by decide +kernel
theorem dX8_isSlot_15 : decode cX8_isSlot 15 = .ok (.ireturn, 1) := by decide +kernel
theorem dX8_groupIndex_0 : decode cX8_groupIndex 0 = .ok (.iload_n 0, 1) := by decide +kernel
theorem dX8_groupIndex_1 : decode cX8_groupIndex 1 = .ok (.bipush 8, 2) := by decide +kernel
theorem dX8_groupIndex_3 : decode cX8_groupIndex 3 = .ok (.imul, 1) := by decide +kernel
theorem dX8_groupIndex_4 : decode cX8_groupIndex 4 = .ok (.iload_n 1, 1) := by decide +kernel
theorem dX8_groupIndex_5 : decode cX8_groupIndex 5 = .ok (.iadd, 1) := by decide +kernel
theorem dX8_groupIndex_6 : decode cX8_groupIndex 6 = .ok (.ireturn, 1) := by decide +kernel
theorem dX8_bit_0 : decode cX8_bit 0 = .ok (.iload_n 0, 1) := by decide +kernel
theorem dX8_bit_1 : decode cX8_bit 1 = .ok (.ifCond .eq 7, 3) := by decide +kernel
theorem dX8_bit_4 : decode cX8_bit 4 = .ok (.iconst 1, 1) := by decide +kernel
theorem dX8_bit_5 : decode cX8_bit 5 = .ok (.goto 4, 3) := by decide +kernel
theorem dX8_bit_8 : decode cX8_bit 8 = .ok (.iconst 0, 1) := by decide +kernel
theorem dX8_bit_9 : decode cX8_bit 9 = .ok (.ireturn, 1) := by decide +kernel
theorem dX8_partAt_0 : decode cX8_partAt 0 = .ok (.iload_n 1, 1) := by decide +kernel
theorem dX8_partAt_1 : decode cX8_partAt 1 = .ok (.aload_n 0, 1) := by decide +kernel
theorem dX8_partAt_2 : decode cX8_partAt 2 = .ok (.arraylength, 1) := by decide +kernel
theorem dX8_partAt_3 : decode cX8_partAt 3 = .ok (.if_icmp .ge 9, 3) := by decide +kernel
theorem dX8_partAt_6 : decode cX8_partAt 6 = .ok (.aload_n 0, 1) := by decide +kernel
theorem dX8_partAt_7 : decode cX8_partAt 7 = .ok (.iload_n 1, 1) := by decide +kernel
theorem dX8_partAt_8 : decode cX8_partAt 8 = .ok (.iaload, 1) := by decide +kernel
theorem dX8_partAt_9 : decode cX8_partAt 9 = .ok (.goto 4, 3) := by decide +kernel
theorem dX8_partAt_12 : decode cX8_partAt 12 = .ok (.iconst 0, 1) := by decide +kernel
theorem dX8_partAt_13 : decode cX8_partAt 13 = .ok (.ireturn, 1) := by decide +kernel
theorem dX8_factorialOf_0 : decode cX8_factorialOf 0 = .ok (.iconst 1, 1) := by decide +kernel
theorem dX8_factorialOf_1 : decode cX8_factorialOf 1 = .ok (.istore_n 1, 1) := by decide +kernel
theorem dX8_factorialOf_2 : decode cX8_factorialOf 2 = .ok (.iconst 2, 1) := by decide +kernel
theorem dX8_factorialOf_3 : decode cX8_factorialOf 3 = .ok (.istore_n 2, 1) := by decide +kernel
theorem dX8_factorialOf_4 : decode cX8_factorialOf 4 = .ok (.iload_n 2, 1) := by decide +kernel
theorem dX8_factorialOf_5 : decode cX8_factorialOf 5 = .ok (.iload_n 0, 1) := by decide +kernel
theorem dX8_factorialOf_6 : decode cX8_factorialOf 6 = .ok (.if_icmp .gt 13, 3) := by decide +kernel
theorem dX8_factorialOf_9 : decode cX8_factorialOf 9 = .ok (.iload_n 1, 1) := by decide +kernel
theorem dX8_factorialOf_10 : decode cX8_factorialOf 10 = .ok (.iload_n 2, 1) := by decide +kernel
theorem dX8_factorialOf_11 : decode cX8_factorialOf 11 = .ok (.imul, 1) := by decide +kernel
theorem dX8_factorialOf_12 : decode cX8_factorialOf 12 = .ok (.istore_n 1, 1) := by decide +kernel
theorem dX8_factorialOf_13 : decode cX8_factorialOf 13 = .ok (.iinc 2 1, 3) := by decide +kernel
theorem dX8_factorialOf_16 : decode cX8_factorialOf 16 = .ok (.goto (-12), 3) := by decide +kernel
theorem dX8_factorialOf_19 : decode cX8_factorialOf 19 = .ok (.iload_n 1, 1) := by decide +kernel
theorem dX8_factorialOf_20 : decode cX8_factorialOf 20 = .ok (.ireturn, 1) := by decide +kernel
theorem dX8_greatestDivisor_0 : decode cX8_greatestDivisor 0 = .ok (.lload_n 0, 1) := by decide +kernel
theorem dX8_greatestDivisor_1 : decode cX8_greatestDivisor 1 = .ok (.lstore 4, 2) := by decide +kernel
theorem dX8_greatestDivisor_3 : decode cX8_greatestDivisor 3 = .ok (.lload_n 2, 1) := by decide +kernel
theorem dX8_greatestDivisor_4 : decode cX8_greatestDivisor 4 = .ok (.lstore 6, 2) := by decide +kernel
theorem dX8_greatestDivisor_6 : decode cX8_greatestDivisor 6 = .ok (.iconst 0, 1) := by decide +kernel
theorem dX8_greatestDivisor_7 : decode cX8_greatestDivisor 7 = .ok (.istore 8, 2) := by decide +kernel
theorem dX8_greatestDivisor_9 : decode cX8_greatestDivisor 9 = .ok (.iload 8, 2) := by decide +kernel
theorem dX8_greatestDivisor_11 : decode cX8_greatestDivisor 11 = .ok (.sipush 200, 3) := by decide +kernel
theorem dX8_greatestDivisor_14 : decode cX8_greatestDivisor 14 = .ok (.if_icmp .ge 31, 3) := by decide +kernel
theorem dX8_greatestDivisor_17 : decode cX8_greatestDivisor 17 = .ok (.lload 6, 2) := by decide +kernel
theorem dX8_greatestDivisor_19 : decode cX8_greatestDivisor 19 = .ok (.lconst 0, 1) := by decide +kernel
theorem dX8_greatestDivisor_20 : decode cX8_greatestDivisor 20 = .ok (.lcmp, 1) := by decide +kernel
theorem dX8_greatestDivisor_21 : decode cX8_greatestDivisor 21 = .ok (.ifCond .eq 24, 3) := by decide +kernel
theorem dX8_greatestDivisor_24 : decode cX8_greatestDivisor 24 = .ok (.lload 4, 2) := by decide +kernel
theorem dX8_greatestDivisor_26 : decode cX8_greatestDivisor 26 = .ok (.lload 6, 2) := by decide +kernel
theorem dX8_greatestDivisor_28 : decode cX8_greatestDivisor 28 = .ok (.lrem, 1) := by decide +kernel
theorem dX8_greatestDivisor_29 : decode cX8_greatestDivisor 29 = .ok (.lstore 9, 2) := by decide +kernel
theorem dX8_greatestDivisor_31 : decode cX8_greatestDivisor 31 = .ok (.lload 6, 2) := by decide +kernel
theorem dX8_greatestDivisor_33 : decode cX8_greatestDivisor 33 = .ok (.lstore 4, 2) := by decide +kernel
theorem dX8_greatestDivisor_35 : decode cX8_greatestDivisor 35 = .ok (.lload 9, 2) := by decide +kernel
theorem dX8_greatestDivisor_37 : decode cX8_greatestDivisor 37 = .ok (.lstore 6, 2) := by decide +kernel
theorem dX8_greatestDivisor_39 : decode cX8_greatestDivisor 39 = .ok (.iinc 8 1, 3) := by decide +kernel
theorem dX8_greatestDivisor_42 : decode cX8_greatestDivisor 42 = .ok (.goto (-33), 3) := by decide +kernel
theorem dX8_greatestDivisor_45 : decode cX8_greatestDivisor 45 = .ok (.lload 4, 2) := by decide +kernel
theorem dX8_greatestDivisor_47 : decode cX8_greatestDivisor 47 = .ok (.lreturn, 1) := by decide +kernel
theorem dJ6_bitCount_0f7a4_0 : decode cJ6_bitCount_0f7a4 0 = .ok (.iload_n 0, 1) := by decide +kernel
theorem dJ6_bitCount_0f7a4_1 : decode cJ6_bitCount_0f7a4 1 = .ok (.iload_n 0, 1) := by decide +kernel
theorem dJ6_bitCount_0f7a4_2 : decode cJ6_bitCount_0f7a4 2 = .ok (.iconst 1, 1) := by decide +kernel
theorem dJ6_bitCount_0f7a4_3 : decode cJ6_bitCount_0f7a4 3 = .ok (.iushr, 1) := by decide +kernel
theorem dJ6_bitCount_0f7a4_4 : decode cJ6_bitCount_0f7a4 4 = .ok (.ldc_w 265, 3) := by decide +kernel
theorem dJ6_bitCount_0f7a4_7 : decode cJ6_bitCount_0f7a4 7 = .ok (.iand, 1) := by decide +kernel
theorem dJ6_bitCount_0f7a4_8 : decode cJ6_bitCount_0f7a4 8 = .ok (.isub, 1) := by decide +kernel
theorem dJ6_bitCount_0f7a4_9 : decode cJ6_bitCount_0f7a4 9 = .ok (.istore_n 0, 1) := by decide +kernel
theorem dJ6_bitCount_0f7a4_10 : decode cJ6_bitCount_0f7a4 10 = .ok (.iload_n 0, 1) := by decide +kernel
theorem dJ6_bitCount_0f7a4_11 : decode cJ6_bitCount_0f7a4 11 = .ok (.ldc_w 266, 3) := by decide +kernel
theorem dJ6_bitCount_0f7a4_14 : decode cJ6_bitCount_0f7a4 14 = .ok (.iand, 1) := by decide +kernel
theorem dJ6_bitCount_0f7a4_15 : decode cJ6_bitCount_0f7a4 15 = .ok (.iload_n 0, 1) := by decide +kernel
theorem dJ6_bitCount_0f7a4_16 : decode cJ6_bitCount_0f7a4 16 = .ok (.iconst 2, 1) := by decide +kernel
theorem dJ6_bitCount_0f7a4_17 : decode cJ6_bitCount_0f7a4 17 = .ok (.iushr, 1) := by decide +kernel
theorem dJ6_bitCount_0f7a4_18 : decode cJ6_bitCount_0f7a4 18 = .ok (.ldc_w 266, 3) := by decide +kernel
theorem dJ6_bitCount_0f7a4_21 : decode cJ6_bitCount_0f7a4 21 = .ok (.iand, 1) := by decide +kernel
theorem dJ6_bitCount_0f7a4_22 : decode cJ6_bitCount_0f7a4 22 = .ok (.iadd, 1) := by decide +kernel
theorem dJ6_bitCount_0f7a4_23 : decode cJ6_bitCount_0f7a4 23 = .ok (.istore_n 0, 1) := by decide +kernel
theorem dJ6_bitCount_0f7a4_24 : decode cJ6_bitCount_0f7a4 24 = .ok (.iload_n 0, 1) := by decide +kernel
theorem dJ6_bitCount_0f7a4_25 : decode cJ6_bitCount_0f7a4 25 = .ok (.iload_n 0, 1) := by decide +kernel
theorem dJ6_bitCount_0f7a4_26 : decode cJ6_bitCount_0f7a4 26 = .ok (.iconst 4, 1) := by decide +kernel
theorem dJ6_bitCount_0f7a4_27 : decode cJ6_bitCount_0f7a4 27 = .ok (.iushr, 1) := by decide +kernel
theorem dJ6_bitCount_0f7a4_28 : decode cJ6_bitCount_0f7a4 28 = .ok (.iadd, 1) := by decide +kernel
theorem dJ6_bitCount_0f7a4_29 : decode cJ6_bitCount_0f7a4 29 = .ok (.ldc_w 267, 3) := by decide +kernel
theorem dJ6_bitCount_0f7a4_32 : decode cJ6_bitCount_0f7a4 32 = .ok (.iand, 1) := by decide +kernel
theorem dJ6_bitCount_0f7a4_33 : decode cJ6_bitCount_0f7a4 33 = .ok (.istore_n 0, 1) := by decide +kernel
theorem dJ6_bitCount_0f7a4_34 : decode cJ6_bitCount_0f7a4 34 = .ok (.iload_n 0, 1) := by decide +kernel
theorem dJ6_bitCount_0f7a4_35 : decode cJ6_bitCount_0f7a4 35 = .ok (.iload_n 0, 1) := by decide +kernel
theorem dJ6_bitCount_0f7a4_36 : decode cJ6_bitCount_0f7a4 36 = .ok (.bipush 8, 2) := by decide +kernel
theorem dJ6_bitCount_0f7a4_38 : decode cJ6_bitCount_0f7a4 38 = .ok (.iushr, 1) := by decide +kernel
theorem dJ6_bitCount_0f7a4_39 : decode cJ6_bitCount_0f7a4 39 = .ok (.iadd, 1) := by decide +kernel
theorem dJ6_bitCount_0f7a4_40 : decode cJ6_bitCount_0f7a4 40 = .ok (.istore_n 0, 1) := by decide +kernel
theorem dJ6_bitCount_0f7a4_41 : decode cJ6_bitCount_0f7a4 41 = .ok (.iload_n 0, 1) := by decide +kernel
theorem dJ6_bitCount_0f7a4_42 : decode cJ6_bitCount_0f7a4 42 = .ok (.iload_n 0, 1) := by decide +kernel
theorem dJ6_bitCount_0f7a4_43 : decode cJ6_bitCount_0f7a4 43 = .ok (.bipush 16, 2) := by decide +kernel
theorem dJ6_bitCount_0f7a4_45 : decode cJ6_bitCount_0f7a4 45 = .ok (.iushr, 1) := by decide +kernel
theorem dJ6_bitCount_0f7a4_46 : decode cJ6_bitCount_0f7a4 46 = .ok (.iadd, 1) := by decide +kernel
theorem dJ6_bitCount_0f7a4_47 : decode cJ6_bitCount_0f7a4 47 = .ok (.istore_n 0, 1) := by decide +kernel
theorem dJ6_bitCount_0f7a4_48 : decode cJ6_bitCount_0f7a4 48 = .ok (.iload_n 0, 1) := by decide +kernel
theorem dJ6_bitCount_0f7a4_49 : decode cJ6_bitCount_0f7a4 49 = .ok (.bipush 63, 2) := by decide +kernel
theorem dJ6_bitCount_0f7a4_51 : decode cJ6_bitCount_0f7a4 51 = .ok (.iand, 1) := by decide +kernel
theorem dJ6_bitCount_0f7a4_52 : decode cJ6_bitCount_0f7a4 52 = .ok (.ireturn, 1) := by decide +kernel
theorem dJ7_fill_d0a16_0 : decode cJ7_fill_d0a16 0 = .ok (.iconst 0, 1) := by decide +kernel
theorem dJ7_fill_d0a16_1 : decode cJ7_fill_d0a16 1 = .ok (.istore_n 3, 1) := by decide +kernel
theorem dJ7_fill_d0a16_2 : decode cJ7_fill_d0a16 2 = .ok (.aload_n 0, 1) := by decide +kernel
theorem dJ7_fill_d0a16_3 : decode cJ7_fill_d0a16 3 = .ok (.arraylength, 1) := by decide +kernel
theorem dJ7_fill_d0a16_4 : decode cJ7_fill_d0a16 4 = .ok (.istore 4, 2) := by decide +kernel
theorem dJ7_fill_d0a16_6 : decode cJ7_fill_d0a16 6 = .ok (.iload_n 3, 1) := by decide +kernel
theorem dJ7_fill_d0a16_7 : decode cJ7_fill_d0a16 7 = .ok (.iload 4, 2) := by decide +kernel
theorem dJ7_fill_d0a16_9 : decode cJ7_fill_d0a16 9 = .ok (.if_icmp .ge 13, 3) := by decide +kernel
theorem dJ7_fill_d0a16_12 : decode cJ7_fill_d0a16 12 = .ok (.aload_n 0, 1) := by decide +kernel
theorem dJ7_fill_d0a16_13 : decode cJ7_fill_d0a16 13 = .ok (.iload_n 3, 1) := by decide +kernel
theorem dJ7_fill_d0a16_14 : decode cJ7_fill_d0a16 14 = .ok (.lload_n 1, 1) := by decide +kernel
theorem dJ7_fill_d0a16_15 : decode cJ7_fill_d0a16 15 = .ok (.lastore, 1) := by decide +kernel
theorem dJ7_fill_d0a16_16 : decode cJ7_fill_d0a16 16 = .ok (.iinc 3 1, 3) := by decide +kernel
theorem dJ7_fill_d0a16_19 : decode cJ7_fill_d0a16 19 = .ok (.goto (-13), 3) := by decide +kernel
theorem dJ7_fill_d0a16_22 : decode cJ7_fill_d0a16 22 = .ok (.return_, 1) := by decide +kernel
theorem dJ7_fill_53178_0 : decode cJ7_fill_53178 0 = .ok (.iconst 0, 1) := by decide +kernel
theorem dJ7_fill_53178_1 : decode cJ7_fill_53178 1 = .ok (.istore_n 2, 1) := by decide +kernel
theorem dJ7_fill_53178_2 : decode cJ7_fill_53178 2 = .ok (.aload_n 0, 1) := by decide +kernel
theorem dJ7_fill_53178_3 : decode cJ7_fill_53178 3 = .ok (.arraylength, 1) := by decide +kernel
theorem dJ7_fill_53178_4 : decode cJ7_fill_53178 4 = .ok (.istore_n 3, 1) := by decide +kernel
theorem dJ7_fill_53178_5 : decode cJ7_fill_53178 5 = .ok (.iload_n 2, 1) := by decide +kernel
theorem dJ7_fill_53178_6 : decode cJ7_fill_53178 6 = .ok (.iload_n 3, 1) := by decide +kernel
theorem dJ7_fill_53178_7 : decode cJ7_fill_53178 7 = .ok (.if_icmp .ge 13, 3) := by decide +kernel
theorem dJ7_fill_53178_10 : decode cJ7_fill_53178 10 = .ok (.aload_n 0, 1) := by decide +kernel
theorem dJ7_fill_53178_11 : decode cJ7_fill_53178 11 = .ok (.iload_n 2, 1) := by decide +kernel
theorem dJ7_fill_53178_12 : decode cJ7_fill_53178 12 = .ok (.iload_n 1, 1) := by decide +kernel
theorem dJ7_fill_53178_13 : decode cJ7_fill_53178 13 = .ok (.iastore, 1) := by decide +kernel
theorem dJ7_fill_53178_14 : decode cJ7_fill_53178 14 = .ok (.iinc 2 1, 3) := by decide +kernel
theorem dJ7_fill_53178_17 : decode cJ7_fill_53178 17 = .ok (.goto (-12), 3) := by decide +kernel
theorem dJ7_fill_53178_20 : decode cJ7_fill_53178 20 = .ok (.return_, 1) := by decide +kernel
theorem dJ7_copyOf_59c91_0 : decode cJ7_copyOf_59c91 0 = .ok (.iload_n 1, 1) := by decide +kernel
theorem dJ7_copyOf_59c91_1 : decode cJ7_copyOf_59c91 1 = .ok (.aload_n 0, 1) := by decide +kernel
theorem dJ7_copyOf_59c91_2 : decode cJ7_copyOf_59c91 2 = .ok (.arraylength, 1) := by decide +kernel
theorem dJ7_copyOf_59c91_3 : decode cJ7_copyOf_59c91 3 = .ok (.if_icmp .ne 11, 3) := by decide +kernel
theorem dJ7_copyOf_59c91_6 : decode cJ7_copyOf_59c91 6 = .ok (.aload_n 0, 1) := by decide +kernel
theorem dJ7_copyOf_59c91_7 : decode cJ7_copyOf_59c91 7 = .ok (.invokevirtual 316, 3) := by decide +kernel
theorem dJ7_copyOf_59c91_10 : decode cJ7_copyOf_59c91 10 = .ok (.checkcast 317, 3) := by decide +kernel
theorem dJ7_copyOf_59c91_13 : decode cJ7_copyOf_59c91 13 = .ok (.areturn, 1) := by decide +kernel
theorem dJ7_copyOf_59c91_14 : decode cJ7_copyOf_59c91 14 = .ok (.iload_n 1, 1) := by decide +kernel
theorem dJ7_copyOf_59c91_15 : decode cJ7_copyOf_59c91 15 = .ok (.newarray .int, 2) := by decide +kernel
theorem dJ7_copyOf_59c91_17 : decode cJ7_copyOf_59c91 17 = .ok (.astore_n 2, 1) := by decide +kernel
theorem dJ7_copyOf_59c91_18 : decode cJ7_copyOf_59c91 18 = .ok (.aload_n 0, 1) := by decide +kernel
theorem dJ7_copyOf_59c91_19 : decode cJ7_copyOf_59c91 19 = .ok (.iconst 0, 1) := by decide +kernel
theorem dJ7_copyOf_59c91_20 : decode cJ7_copyOf_59c91 20 = .ok (.aload_n 2, 1) := by decide +kernel
theorem dJ7_copyOf_59c91_21 : decode cJ7_copyOf_59c91 21 = .ok (.iconst 0, 1) := by decide +kernel
theorem dJ7_copyOf_59c91_22 : decode cJ7_copyOf_59c91 22 = .ok (.aload_n 0, 1) := by decide +kernel
theorem dJ7_copyOf_59c91_23 : decode cJ7_copyOf_59c91 23 = .ok (.arraylength, 1) := by decide +kernel
theorem dJ7_copyOf_59c91_24 : decode cJ7_copyOf_59c91 24 = .ok (.iload_n 1, 1) := by decide +kernel
theorem dJ7_copyOf_59c91_25 : decode cJ7_copyOf_59c91 25 = .ok (.invokestatic 304, 3) := by decide +kernel
theorem dJ7_copyOf_59c91_28 : decode cJ7_copyOf_59c91 28 = .ok (.invokestatic 150, 3) := by decide +kernel
theorem dJ7_copyOf_59c91_31 : decode cJ7_copyOf_59c91 31 = .ok (.aload_n 2, 1) := by decide +kernel
theorem dJ7_copyOf_59c91_32 : decode cJ7_copyOf_59c91 32 = .ok (.areturn, 1) := by decide +kernel
