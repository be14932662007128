/-! instructions, by program -/
theorem dX9_see_0 : decode cX9_see 0 = .ok (.aload_n 0, 1) := by decide +kernel
theorem dX9_see_1 : decode cX9_see 1 = .ok (.getfield 353, 3) := by decide +kernel
theorem dX9_see_4 : decode cX9_see 4 = .ok (.aload_n 0, 1) := by decide +kernel
theorem dX9_see_5 : decode cX9_see 5 = .ok (.getfield 347, 3) := by decide +kernel
theorem dX9_see_8 : decode cX9_see 8 = .ok (.if_icmp .ge 44, 3) := by decide +kernel
theorem dX9_see_11 : decode cX9_see 11 = .ok (.aload_n 0, 1) := by decide +kernel
theorem dX9_see_12 : decode cX9_see 12 = .ok (.getfield 121, 3) := by decide +kernel
theorem dX9_see_15 : decode cX9_see 15 = .ok (.aload_n 0, 1) := by decide +kernel
theorem dX9_see_16 : decode cX9_see 16 = .ok (.getfield 353, 3) := by decide +kernel
theorem dX9_see_19 : decode cX9_see 19 = .ok (.iaload, 1) := by decide +kernel
theorem dX9_see_20 : decode cX9_see 20 = .ok (.bipush 32, 2) := by decide +kernel
theorem dX9_see_22 : decode cX9_see 22 = .ok (.if_icmp .eq 17, 3) := by decide +kernel
theorem dX9_see_25 : decode cX9_see 25 = .ok (.aload_n 0, 1) := by decide +kernel
theorem dX9_see_26 : decode cX9_see 26 = .ok (.getfield 121, 3) := by decide +kernel
theorem dX9_see_29 : decode cX9_see 29 = .ok (.aload_n 0, 1) := by decide +kernel
theorem dX9_see_30 : decode cX9_see 30 = .ok (.getfield 353, 3) := by decide +kernel
theorem dX9_see_33 : decode cX9_see 33 = .ok (.iaload, 1) := by decide +kernel
theorem dX9_see_34 : decode cX9_see 34 = .ok (.bipush 10, 2) := by decide +kernel
theorem dX9_see_36 : decode cX9_see 36 = .ok (.if_icmp .ne 16, 3) := by decide +kernel
theorem dX9_see_39 : decode cX9_see 39 = .ok (.aload_n 0, 1) := by decide +kernel
theorem dX9_see_40 : decode cX9_see 40 = .ok (.dup, 1) := by decide +kernel
theorem dX9_see_41 : decode cX9_see 41 = .ok (.getfield 353, 3) := by decide +kernel
theorem dX9_see_44 : decode cX9_see 44 = .ok (.iconst 1, 1) := by decide +kernel
theorem dX9_see_45 : decode cX9_see 45 = .ok (.iadd, 1) := by decide +kernel
theorem dX9_see_46 : decode cX9_see 46 = .ok (.putfield 353, 3) := by decide +kernel
theorem dX9_see_49 : decode cX9_see 49 = .ok (.goto (-49), 3) := by decide +kernel
theorem dX9_see_52 : decode cX9_see 52 = .ok (.aload_n 0, 1) := by decide +kernel
theorem dX9_see_53 : decode cX9_see 53 = .ok (.getfield 353, 3) := by decide +kernel
theorem dX9_see_56 : decode cX9_see 56 = .ok (.aload_n 0, 1) := by decide +kernel
theorem dX9_see_57 : decode cX9_see 57 = .ok (.getfield 347, 3) := by decide +kernel
theorem dX9_see_60 : decode cX9_see 60 = .ok (.if_icmp .ge 15, 3) := by decide +kernel
theorem dX9_see_63 : decode cX9_see 63 = .ok (.aload_n 0, 1) := by decide +kernel
theorem dX9_see_64 : decode cX9_see 64 = .ok (.getfield 121, 3) := by decide +kernel
theorem dX9_see_67 : decode cX9_see 67 = .ok (.aload_n 0, 1) := by decide +kernel
theorem dX9_see_68 : decode cX9_see 68 = .ok (.getfield 353, 3) := by decide +kernel
theorem dX9_see_71 : decode cX9_see 71 = .ok (.iaload, 1) := by decide +kernel
theorem dX9_see_72 : decode cX9_see 72 = .ok (.goto 4, 3) := by decide +kernel
theorem dX9_see_75 : decode cX9_see 75 = .ok (.iconst (-1), 1) := by decide +kernel
theorem dX9_see_76 : decode cX9_see 76 = .ok (.ireturn, 1) := by decide +kernel
theorem dX9_fails_0 : decode cX9_fails 0 = .ok (.aload_n 0, 1) := by decide +kernel
theorem dX9_fails_1 : decode cX9_fails 1 = .ok (.getfield 356, 3) := by decide +kernel
theorem dX9_fails_4 : decode cX9_fails 4 = .ok (.ifCond .eq 5, 3) := by decide +kernel
theorem dX9_fails_7 : decode cX9_fails 7 = .ok (.iconst 0, 1) := by decide +kernel
theorem dX9_fails_8 : decode cX9_fails 8 = .ok (.ireturn, 1) := by decide +kernel
theorem dX9_fails_9 : decode cX9_fails 9 = .ok (.aload_n 0, 1) := by decide +kernel
theorem dX9_fails_10 : decode cX9_fails 10 = .ok (.iload_n 1, 1) := by decide +kernel
theorem dX9_fails_11 : decode cX9_fails 11 = .ok (.putfield 356, 3) := by decide +kernel
theorem dX9_fails_14 : decode cX9_fails 14 = .ok (.aload_n 0, 1) := by decide +kernel
theorem dX9_fails_15 : decode cX9_fails 15 = .ok (.iload_n 2, 1) := by decide +kernel
theorem dX9_fails_16 : decode cX9_fails 16 = .ok (.putfield 124, 3) := by decide +kernel
theorem dX9_fails_19 : decode cX9_fails 19 = .ok (.aload_n 0, 1) := by decide +kernel
theorem dX9_fails_20 : decode cX9_fails 20 = .ok (.iload_n 1, 1) := by decide +kernel
theorem dX9_fails_21 : decode cX9_fails 21 = .ok (.iconst 1, 1) := by decide +kernel
theorem dX9_fails_22 : decode cX9_fails 22 = .ok (.if_icmp .ne 7, 3) := by decide +kernel
theorem dX9_fails_25 : decode cX9_fails 25 = .ok (.iconst 0, 1) := by decide +kernel
theorem dX9_fails_26 : decode cX9_fails 26 = .ok (.goto 7, 3) := by decide +kernel
theorem dX9_fails_29 : decode cX9_fails 29 = .ok (.aload_n 0, 1) := by decide +kernel
theorem dX9_fails_30 : decode cX9_fails 30 = .ok (.getfield 359, 3) := by decide +kernel
theorem dX9_fails_33 : decode cX9_fails 33 = .ok (.putfield 361, 3) := by decide +kernel
theorem dX9_fails_36 : decode cX9_fails 36 = .ok (.iconst 0, 1) := by decide +kernel
theorem dX9_fails_37 : decode cX9_fails 37 = .ok (.istore_n 3, 1) := by decide +kernel
theorem dX9_fails_38 : decode cX9_fails 38 = .ok (.iload_n 3, 1) := by decide +kernel
theorem dX9_fails_39 : decode cX9_fails 39 = .ok (.aload_n 0, 1) := by decide +kernel
theorem dX9_fails_40 : decode cX9_fails 40 = .ok (.getfield 361, 3) := by decide +kernel
theorem dX9_fails_43 : decode cX9_fails 43 = .ok (.if_icmp .ge 28, 3) := by decide +kernel
theorem dX9_fails_46 : decode cX9_fails 46 = .ok (.aload_n 0, 1) := by decide +kernel
theorem dX9_fails_47 : decode cX9_fails 47 = .ok (.getfield 128, 3) := by decide +kernel
theorem dX9_fails_50 : decode cX9_fails 50 = .ok (.iload_n 3, 1) := by decide +kernel
theorem dX9_fails_51 : decode cX9_fails 51 = .ok (.aload_n 0, 1) := by decide +kernel
theorem dX9_fails_52 : decode cX9_fails 52 = .ok (.getfield 131, 3) := by decide +kernel
theorem dX9_fails_55 : decode cX9_fails 55 = .ok (.aload_n 0, 1) := by decide +kernel
theorem dX9_fails_56 : decode cX9_fails 56 = .ok (.getfield 359, 3) := by decide +kernel
theorem dX9_fails_59 : decode cX9_fails 59 = .ok (.iconst 1, 1) := by decide +kernel
theorem dX9_fails_60 : decode cX9_fails 60 = .ok (.isub, 1) := by decide +kernel
theorem dX9_fails_61 : decode cX9_fails 61 = .ok (.iload_n 3, 1) := by decide +kernel
theorem dX9_fails_62 : decode cX9_fails 62 = .ok (.isub, 1) := by decide +kernel
theorem dX9_fails_63 : decode cX9_fails 63 = .ok (.iaload, 1) := by decide +kernel
theorem dX9_fails_64 : decode cX9_fails 64 = .ok (.iastore, 1) := by decide +kernel
theorem dX9_fails_65 : decode cX9_fails 65 = .ok (.iinc 3 1, 3) := by decide +kernel
theorem dX9_fails_68 : decode cX9_fails 68 = .ok (.goto (-30), 3) := by decide +kernel
theorem dX9_fails_71 : decode cX9_fails 71 = .ok (.iconst 0, 1) := by decide +kernel
theorem dX9_fails_72 : decode cX9_fails 72 = .ok (.ireturn, 1) := by decide +kernel
theorem dX9_begin_0 : decode cX9_begin 0 = .ok (.aload_n 0, 1) := by decide +kernel
theorem dX9_begin_1 : decode cX9_begin 1 = .ok (.invokevirtual 364, 3) := by decide +kernel
theorem dX9_begin_4 : decode cX9_begin 4 = .ok (.pop, 1) := by decide +kernel
theorem dX9_begin_5 : decode cX9_begin 5 = .ok (.aload_n 0, 1) := by decide +kernel
theorem dX9_begin_6 : decode cX9_begin 6 = .ok (.getfield 131, 3) := by decide +kernel
theorem dX9_begin_9 : decode cX9_begin 9 = .ok (.aload_n 0, 1) := by decide +kernel
theorem dX9_begin_10 : decode cX9_begin 10 = .ok (.getfield 359, 3) := by decide +kernel
theorem dX9_begin_13 : decode cX9_begin 13 = .ok (.aload_n 0, 1) := by decide +kernel
theorem dX9_begin_14 : decode cX9_begin 14 = .ok (.getfield 353, 3) := by decide +kernel
theorem dX9_begin_17 : decode cX9_begin 17 = .ok (.iastore, 1) := by decide +kernel
theorem dX9_begin_18 : decode cX9_begin 18 = .ok (.aload_n 0, 1) := by decide +kernel
theorem dX9_begin_19 : decode cX9_begin 19 = .ok (.dup, 1) := by decide +kernel
theorem dX9_begin_20 : decode cX9_begin 20 = .ok (.getfield 359, 3) := by decide +kernel
theorem dX9_begin_23 : decode cX9_begin 23 = .ok (.iconst 1, 1) := by decide +kernel
theorem dX9_begin_24 : decode cX9_begin 24 = .ok (.iadd, 1) := by decide +kernel
theorem dX9_begin_25 : decode cX9_begin 25 = .ok (.putfield 359, 3) := by decide +kernel
theorem dX9_begin_28 : decode cX9_begin 28 = .ok (.return_, 1) := by decide +kernel
theorem dX9_readsNumber_0 : decode cX9_readsNumber 0 = .ok (.aload_n 0, 1) := by decide +kernel
theorem dX9_readsNumber_1 : decode cX9_readsNumber 1 = .ok (.invokevirtual 364, 3) := by decide +kernel
theorem dX9_readsNumber_4 : decode cX9_readsNumber 4 = .ok (.pop, 1) := by decide +kernel
theorem dX9_readsNumber_5 : decode cX9_readsNumber 5 = .ok (.aload_n 0, 1) := by decide +kernel
theorem dX9_readsNumber_6 : decode cX9_readsNumber 6 = .ok (.aload_n 0, 1) := by decide +kernel
theorem dX9_readsNumber_7 : decode cX9_readsNumber 7 = .ok (.getfield 353, 3) := by decide +kernel
theorem dX9_readsNumber_10 : decode cX9_readsNumber 10 = .ok (.putfield 367, 3) := by decide +kernel
theorem dX9_readsNumber_13 : decode cX9_readsNumber 13 = .ok (.aload_n 0, 1) := by decide +kernel
theorem dX9_readsNumber_14 : decode cX9_readsNumber 14 = .ok (.iconst 0, 1) := by decide +kernel
theorem dX9_readsNumber_15 : decode cX9_readsNumber 15 = .ok (.putfield 370, 3) := by decide +kernel
theorem dX9_readsNumber_18 : decode cX9_readsNumber 18 = .ok (.aload_n 0, 1) := by decide +kernel
theorem dX9_readsNumber_19 : decode cX9_readsNumber 19 = .ok (.getfield 353, 3) := by decide +kernel
theorem dX9_readsNumber_22 : decode cX9_readsNumber 22 = .ok (.aload_n 0, 1) := by decide +kernel
theorem dX9_readsNumber_23 : decode cX9_readsNumber 23 = .ok (.getfield 347, 3) := by decide +kernel
theorem dX9_readsNumber_26 : decode cX9_readsNumber 26 = .ok (.if_icmp .ge 75, 3) := by decide +kernel
theorem dX9_readsNumber_29 : decode cX9_readsNumber 29 = .ok (.aload_n 0, 1) := by decide +kernel
theorem dX9_readsNumber_30 : decode cX9_readsNumber 30 = .ok (.getfield 121, 3) := by decide +kernel
theorem dX9_readsNumber_33 : decode cX9_readsNumber 33 = .ok (.aload_n 0, 1) := by decide +kernel
theorem dX9_readsNumber_34 : decode cX9_readsNumber 34 = .ok (.getfield 353, 3) := by decide +kernel
theorem dX9_readsNumber_37 : decode cX9_readsNumber 37 = .ok (.iaload, 1) := by decide +kernel
theorem dX9_readsNumber_38 : decode cX9_readsNumber 38 = .ok (.i2l, 1) := by decide +kernel
theorem dX9_readsNumber_39 : decode cX9_readsNumber 39 = .ok (.ldc2_w 373, 3) := by decide +kernel
theorem dX9_readsNumber_42 : decode cX9_readsNumber 42 = .ok (.ldc2_w 375, 3) := by decide +kernel
theorem dX9_readsNumber_45 : decode cX9_readsNumber 45 = .ok (.invokestatic 283, 3) := by decide +kernel
theorem dX9_readsNumber_48 : decode cX9_readsNumber 48 = .ok (.ifCond .eq 53, 3) := by decide +kernel
theorem dX9_readsNumber_51 : decode cX9_readsNumber 51 = .ok (.aload_n 0, 1) := by decide +kernel
theorem dX9_readsNumber_52 : decode cX9_readsNumber 52 = .ok (.getfield 353, 3) := by decide +kernel
theorem dX9_readsNumber_55 : decode cX9_readsNumber 55 = .ok (.aload_n 0, 1) := by decide +kernel
theorem dX9_readsNumber_56 : decode cX9_readsNumber 56 = .ok (.getfield 367, 3) := by decide +kernel
theorem dX9_readsNumber_59 : decode cX9_readsNumber 59 = .ok (.isub, 1) := by decide +kernel
theorem dX9_readsNumber_60 : decode cX9_readsNumber 60 = .ok (.iconst 5, 1) := by decide +kernel
theorem dX9_readsNumber_61 : decode cX9_readsNumber 61 = .ok (.if_icmp .ge 27, 3) := by decide +kernel
theorem dX9_readsNumber_64 : decode cX9_readsNumber 64 = .ok (.aload_n 0, 1) := by decide +kernel
theorem dX9_readsNumber_65 : decode cX9_readsNumber 65 = .ok (.bipush 10, 2) := by decide +kernel
theorem dX9_readsNumber_67 : decode cX9_readsNumber 67 = .ok (.aload_n 0, 1) := by decide +kernel
theorem dX9_readsNumber_68 : decode cX9_readsNumber 68 = .ok (.getfield 370, 3) := by decide +kernel
theorem dX9_readsNumber_71 : decode cX9_readsNumber 71 = .ok (.imul, 1) := by decide +kernel
theorem dX9_readsNumber_72 : decode cX9_readsNumber 72 = .ok (.aload_n 0, 1) := by decide +kernel
theorem dX9_readsNumber_73 : decode cX9_readsNumber 73 = .ok (.getfield 121, 3) := by decide +kernel
theorem dX9_readsNumber_76 : decode cX9_readsNumber 76 = .ok (.aload_n 0, 1) := by decide +kernel
theorem dX9_readsNumber_77 : decode cX9_readsNumber 77 = .ok (.getfield 353, 3) := by decide +kernel
theorem dX9_readsNumber_80 : decode cX9_readsNumber 80 = .ok (.iaload, 1) := by decide +kernel
theorem dX9_readsNumber_81 : decode cX9_readsNumber 81 = .ok (.iadd, 1) := by decide +kernel
theorem dX9_readsNumber_82 : decode cX9_readsNumber 82 = .ok (.bipush 48, 2) := by decide +kernel
theorem dX9_readsNumber_84 : decode cX9_readsNumber 84 = .ok (.isub, 1) := by decide +kernel
theorem dX9_readsNumber_85 : decode cX9_readsNumber 85 = .ok (.putfield 370, 3) := by decide +kernel
theorem dX9_readsNumber_88 : decode cX9_readsNumber 88 = .ok (.aload_n 0, 1) := by decide +kernel
theorem dX9_readsNumber_89 : decode cX9_readsNumber 89 = .ok (.dup, 1) := by decide +kernel
theorem dX9_readsNumber_90 : decode cX9_readsNumber 90 = .ok (.getfield 353, 3) := by decide +kernel
theorem dX9_readsNumber_93 : decode cX9_readsNumber 93 = .ok (.iconst 1, 1) := by decide +kernel
theorem dX9_readsNumber_94 : decode cX9_readsNumber 94 = .ok (.iadd, 1) := by decide +kernel
theorem dX9_readsNumber_95 : decode cX9_readsNumber 95 = .ok (.putfield 353, 3) := by decide +kernel
theorem dX9_readsNumber_98 : decode cX9_readsNumber 98 = .ok (.goto (-80), 3) := by decide +kernel
theorem dX9_readsNumber_101 : decode cX9_readsNumber 101 = .ok (.aload_n 0, 1) := by decide +kernel
theorem dX9_readsNumber_102 : decode cX9_readsNumber 102 = .ok (.getfield 353, 3) := by decide +kernel
theorem dX9_readsNumber_105 : decode cX9_readsNumber 105 = .ok (.aload_n 0, 1) := by decide +kernel
theorem dX9_readsNumber_106 : decode cX9_readsNumber 106 = .ok (.getfield 367, 3) := by decide +kernel
theorem dX9_readsNumber_109 : decode cX9_readsNumber 109 = .ok (.if_icmp .eq 16, 3) := by decide +kernel
theorem dX9_readsNumber_112 : decode cX9_readsNumber 112 = .ok (.aload_n 0, 1) := by decide +kernel
theorem dX9_readsNumber_113 : decode cX9_readsNumber 113 = .ok (.getfield 353, 3) := by decide +kernel
theorem dX9_readsNumber_116 : decode cX9_readsNumber 116 = .ok (.aload_n 0, 1) := by decide +kernel
theorem dX9_readsNumber_117 : decode cX9_readsNumber 117 = .ok (.getfield 367, 3) := by decide +kernel
theorem dX9_readsNumber_120 : decode cX9_readsNumber 120 = .ok (.isub, 1) := by decide +kernel
theorem dX9_readsNumber_121 : decode cX9_readsNumber 121 = .ok (.iconst 4, 1) := by decide +kernel
theorem dX9_readsNumber_122 : decode cX9_readsNumber 122 = .ok (.if_icmp .le 13, 3) := by decide +kernel
theorem dX9_readsNumber_125 : decode cX9_readsNumber 125 = .ok (.aload_n 0, 1) := by decide +kernel
theorem dX9_readsNumber_126 : decode cX9_readsNumber 126 = .ok (.iconst 1, 1) := by decide +kernel
theorem dX9_readsNumber_127 : decode cX9_readsNumber 127 = .ok (.aload_n 0, 1) := by decide +kernel
theorem dX9_readsNumber_128 : decode cX9_readsNumber 128 = .ok (.getfield 367, 3) := by decide +kernel
theorem dX9_readsNumber_131 : decode cX9_readsNumber 131 = .ok (.invokevirtual 377, 3) := by decide +kernel
theorem dX9_readsNumber_134 : decode cX9_readsNumber 134 = .ok (.ireturn, 1) := by decide +kernel
theorem dX9_readsNumber_135 : decode cX9_readsNumber 135 = .ok (.iconst 1, 1) := by decide +kernel
theorem dX9_readsNumber_136 : decode cX9_readsNumber 136 = .ok (.ireturn, 1) := by decide +kernel
theorem dX9_readsPart_0 : decode cX9_readsPart 0 = .ok (.aload_n 0, 1) := by decide +kernel
theorem dX9_readsPart_1 : decode cX9_readsPart 1 = .ok (.getfield 353, 3) := by decide +kernel
theorem dX9_readsPart_4 : decode cX9_readsPart 4 = .ok (.istore_n 1, 1) := by decide +kernel
theorem dX9_readsPart_5 : decode cX9_readsPart 5 = .ok (.aload_n 0, 1) := by decide +kernel
theorem dX9_readsPart_6 : decode cX9_readsPart 6 = .ok (.dup, 1) := by decide +kernel
theorem dX9_readsPart_7 : decode cX9_readsPart 7 = .ok (.getfield 353, 3) := by decide +kernel
theorem dX9_readsPart_10 : decode cX9_readsPart 10 = .ok (.iconst 1, 1) := by decide +kernel
theorem dX9_readsPart_11 : decode cX9_readsPart 11 = .ok (.iadd, 1) := by decide +kernel
theorem dX9_readsPart_12 : decode cX9_readsPart 12 = .ok (.putfield 353, 3) := by decide +kernel
theorem dX9_readsPart_15 : decode cX9_readsPart 15 = .ok (.aload_n 0, 1) := by decide +kernel
theorem dX9_readsPart_16 : decode cX9_readsPart 16 = .ok (.iconst 0, 1) := by decide +kernel
theorem dX9_readsPart_17 : decode cX9_readsPart 17 = .ok (.putfield 380, 3) := by decide +kernel
theorem dX9_readsPart_20 : decode cX9_readsPart 20 = .ok (.iconst 0, 1) := by decide +kernel
theorem dX9_readsPart_21 : decode cX9_readsPart 21 = .ok (.istore_n 2, 1) := by decide +kernel
theorem dX9_readsPart_22 : decode cX9_readsPart 22 = .ok (.iconst 1, 1) := by decide +kernel
theorem dX9_readsPart_23 : decode cX9_readsPart 23 = .ok (.istore_n 3, 1) := by decide +kernel
theorem dX9_readsPart_24 : decode cX9_readsPart 24 = .ok (.iload_n 3, 1) := by decide +kernel
theorem dX9_readsPart_25 : decode cX9_readsPart 25 = .ok (.ifCond .eq 89, 3) := by decide +kernel
theorem dX9_readsPart_28 : decode cX9_readsPart 28 = .ok (.aload_n 0, 1) := by decide +kernel
theorem dX9_readsPart_29 : decode cX9_readsPart 29 = .ok (.invokevirtual 383, 3) := by decide +kernel
theorem dX9_readsPart_32 : decode cX9_readsPart 32 = .ok (.ifCond .ne 5, 3) := by decide +kernel
theorem dX9_readsPart_35 : decode cX9_readsPart 35 = .ok (.iconst (-1), 1) := by decide +kernel
theorem dX9_readsPart_36 : decode cX9_readsPart 36 = .ok (.ireturn, 1) := by decide +kernel
theorem dX9_readsPart_37 : decode cX9_readsPart 37 = .ok (.iload_n 2, 1) := by decide +kernel
theorem dX9_readsPart_38 : decode cX9_readsPart 38 = .ok (.bipush 6, 2) := by decide +kernel
theorem dX9_readsPart_40 : decode cX9_readsPart 40 = .ok (.if_icmp .ge 13, 3) := by decide +kernel
theorem dX9_readsPart_43 : decode cX9_readsPart 43 = .ok (.aload_n 0, 1) := by decide +kernel
theorem dX9_readsPart_44 : decode cX9_readsPart 44 = .ok (.getfield 143, 3) := by decide +kernel
theorem dX9_readsPart_47 : decode cX9_readsPart 47 = .ok (.iload_n 2, 1) := by decide +kernel
theorem dX9_readsPart_48 : decode cX9_readsPart 48 = .ok (.aload_n 0, 1) := by decide +kernel
theorem dX9_readsPart_49 : decode cX9_readsPart 49 = .ok (.getfield 370, 3) := by decide +kernel
theorem dX9_readsPart_52 : decode cX9_readsPart 52 = .ok (.iastore, 1) := by decide +kernel
theorem dX9_readsPart_53 : decode cX9_readsPart 53 = .ok (.iinc 2 1, 3) := by decide +kernel
theorem dX9_readsPart_56 : decode cX9_readsPart 56 = .ok (.aload_n 0, 1) := by decide +kernel
theorem dX9_readsPart_57 : decode cX9_readsPart 57 = .ok (.invokevirtual 364, 3) := by decide +kernel
theorem dX9_readsPart_60 : decode cX9_readsPart 60 = .ok (.istore 4, 2) := by decide +kernel
theorem dX9_readsPart_62 : decode cX9_readsPart 62 = .ok (.iload 4, 2) := by decide +kernel
theorem dX9_readsPart_64 : decode cX9_readsPart 64 = .ok (.bipush 44, 2) := by decide +kernel
theorem dX9_readsPart_66 : decode cX9_readsPart 66 = .ok (.if_icmp .eq 22, 3) := by decide +kernel
theorem dX9_readsPart_69 : decode cX9_readsPart 69 = .ok (.iload 4, 2) := by decide +kernel
theorem dX9_readsPart_71 : decode cX9_readsPart 71 = .ok (.bipush 93, 2) := by decide +kernel
theorem dX9_readsPart_73 : decode cX9_readsPart 73 = .ok (.if_icmp .eq 15, 3) := by decide +kernel
theorem dX9_readsPart_76 : decode cX9_readsPart 76 = .ok (.aload_n 0, 1) := by decide +kernel
theorem dX9_readsPart_77 : decode cX9_readsPart 77 = .ok (.iconst 1, 1) := by decide +kernel
theorem dX9_readsPart_78 : decode cX9_readsPart 78 = .ok (.aload_n 0, 1) := by decide +kernel
theorem dX9_readsPart_79 : decode cX9_readsPart 79 = .ok (.getfield 353, 3) := by decide +kernel
theorem dX9_readsPart_82 : decode cX9_readsPart 82 = .ok (.invokevirtual 377, 3) := by decide +kernel
theorem dX9_readsPart_85 : decode cX9_readsPart 85 = .ok (.pop, 1) := by decide +kernel
theorem dX9_readsPart_86 : decode cX9_readsPart 86 = .ok (.iconst (-1), 1) := by decide +kernel
theorem dX9_readsPart_87 : decode cX9_readsPart 87 = .ok (.ireturn, 1) := by decide +kernel
theorem dX9_readsPart_88 : decode cX9_readsPart 88 = .ok (.aload_n 0, 1) := by decide +kernel
theorem dX9_readsPart_89 : decode cX9_readsPart 89 = .ok (.dup, 1) := by decide +kernel
theorem dX9_readsPart_90 : decode cX9_readsPart 90 = .ok (.getfield 353, 3) := by decide +kernel
theorem dX9_readsPart_93 : decode cX9_readsPart 93 = .ok (.iconst 1, 1) := by decide +kernel
theorem dX9_readsPart_94 : decode cX9_readsPart 94 = .ok (.iadd, 1) := by decide +kernel
theorem dX9_readsPart_95 : decode cX9_readsPart 95 = .ok (.putfield 353, 3) := by decide +kernel
theorem dX9_readsPart_98 : decode cX9_readsPart 98 = .ok (.iload 4, 2) := by decide +kernel
theorem dX9_readsPart_100 : decode cX9_readsPart 100 = .ok (.bipush 44, 2) := by decide +kernel
theorem dX9_readsPart_102 : decode cX9_readsPart 102 = .ok (.if_icmp .ne 7, 3) := by decide +kernel
theorem dX9_readsPart_105 : decode cX9_readsPart 105 = .ok (.iconst 1, 1) := by decide +kernel
theorem dX9_readsPart_106 : decode cX9_readsPart 106 = .ok (.goto 4, 3) := by decide +kernel
theorem dX9_readsPart_109 : decode cX9_readsPart 109 = .ok (.iconst 0, 1) := by decide +kernel
theorem dX9_readsPart_110 : decode cX9_readsPart 110 = .ok (.istore_n 3, 1) := by decide +kernel
theorem dX9_readsPart_111 : decode cX9_readsPart 111 = .ok (.goto (-87), 3) := by decide +kernel
theorem dX9_readsPart_114 : decode cX9_readsPart 114 = .ok (.aload_n 0, 1) := by decide +kernel
theorem dX9_readsPart_115 : decode cX9_readsPart 115 = .ok (.iload_n 2, 1) := by decide +kernel
theorem dX9_readsPart_116 : decode cX9_readsPart 116 = .ok (.putfield 380, 3) := by decide +kernel
theorem dX9_readsPart_119 : decode cX9_readsPart 119 = .ok (.iconst 0, 1) := by decide +kernel
theorem dX9_readsPart_120 : decode cX9_readsPart 120 = .ok (.istore 4, 2) := by decide +kernel
theorem dX9_readsPart_122 : decode cX9_readsPart 122 = .ok (.iload 4, 2) := by decide +kernel
theorem dX9_readsPart_124 : decode cX9_readsPart 124 = .ok (.aload_n 0, 1) := by decide +kernel
theorem dX9_readsPart_125 : decode cX9_readsPart 125 = .ok (.getfield 153, 3) := by decide +kernel
theorem dX9_readsPart_128 : decode cX9_readsPart 128 = .ok (.if_icmp .ge 21, 3) := by decide +kernel
theorem dX9_readsPart_131 : decode cX9_readsPart 131 = .ok (.aload_n 0, 1) := by decide +kernel
theorem dX9_readsPart_132 : decode cX9_readsPart 132 = .ok (.iload 4, 2) := by decide +kernel
theorem dX9_readsPart_134 : decode cX9_readsPart 134 = .ok (.invokevirtual 387, 3) := by decide +kernel
theorem dX9_readsPart_137 : decode cX9_readsPart 137 = .ok (.ifCond .eq 6, 3) := by decide +kernel
theorem dX9_readsPart_140 : decode cX9_readsPart 140 = .ok (.iload 4, 2) := by decide +kernel
theorem dX9_readsPart_142 : decode cX9_readsPart 142 = .ok (.ireturn, 1) := by decide +kernel
theorem dX9_readsPart_143 : decode cX9_readsPart 143 = .ok (.iinc 4 1, 3) := by decide +kernel
theorem dX9_readsPart_146 : decode cX9_readsPart 146 = .ok (.goto (-24), 3) := by decide +kernel
theorem dX9_readsPart_149 : decode cX9_readsPart 149 = .ok (.aload_n 0, 1) := by decide +kernel
theorem dX9_readsPart_150 : decode cX9_readsPart 150 = .ok (.iconst 2, 1) := by decide +kernel
theorem dX9_readsPart_151 : decode cX9_readsPart 151 = .ok (.iload_n 1, 1) := by decide +kernel
theorem dX9_readsPart_152 : decode cX9_readsPart 152 = .ok (.invokevirtual 377, 3) := by decide +kernel
theorem dX9_readsPart_155 : decode cX9_readsPart 155 = .ok (.pop, 1) := by decide +kernel
theorem dX9_readsPart_156 : decode cX9_readsPart 156 = .ok (.iconst (-1), 1) := by decide +kernel
theorem dX9_readsPart_157 : decode cX9_readsPart 157 = .ok (.ireturn, 1) := by decide +kernel
theorem dX9_isListed_0 : decode cX9_isListed 0 = .ok (.aload_n 0, 1) := by decide +kernel
theorem dX9_isListed_1 : decode cX9_isListed 1 = .ok (.getfield 380, 3) := by decide +kernel
theorem dX9_isListed_4 : decode cX9_isListed 4 = .ok (.aload_n 0, 1) := by decide +kernel
theorem dX9_isListed_5 : decode cX9_isListed 5 = .ok (.getfield 13, 3) := by decide +kernel
theorem dX9_isListed_8 : decode cX9_isListed 8 = .ok (.iload_n 1, 1) := by decide +kernel
theorem dX9_isListed_9 : decode cX9_isListed 9 = .ok (.iaload, 1) := by decide +kernel
theorem dX9_isListed_10 : decode cX9_isListed 10 = .ok (.if_icmp .eq 5, 3) := by decide +kernel
theorem dX9_isListed_13 : decode cX9_isListed 13 = .ok (.iconst 0, 1) := by decide +kernel
theorem dX9_isListed_14 : decode cX9_isListed 14 = .ok (.ireturn, 1) := by decide +kernel
theorem dX9_isListed_15 : decode cX9_isListed 15 = .ok (.iconst 0, 1) := by decide +kernel
theorem dX9_isListed_16 : decode cX9_isListed 16 = .ok (.istore_n 2, 1) := by decide +kernel
theorem dX9_isListed_17 : decode cX9_isListed 17 = .ok (.iload_n 2, 1) := by decide +kernel
theorem dX9_isListed_18 : decode cX9_isListed 18 = .ok (.aload_n 0, 1) := by decide +kernel
theorem dX9_isListed_19 : decode cX9_isListed 19 = .ok (.getfield 380, 3) := by decide +kernel
theorem dX9_isListed_22 : decode cX9_isListed 22 = .ok (.if_icmp .ge 26, 3) := by decide +kernel
theorem dX9_isListed_25 : decode cX9_isListed 25 = .ok (.aload_n 0, 1) := by decide +kernel
theorem dX9_isListed_26 : decode cX9_isListed 26 = .ok (.getfield 143, 3) := by decide +kernel
theorem dX9_isListed_29 : decode cX9_isListed 29 = .ok (.iload_n 2, 1) := by decide +kernel
theorem dX9_isListed_30 : decode cX9_isListed 30 = .ok (.iaload, 1) := by decide +kernel
theorem dX9_isListed_31 : decode cX9_isListed 31 = .ok (.aload_n 0, 1) := by decide +kernel
theorem dX9_isListed_32 : decode cX9_isListed 32 = .ok (.iload_n 1, 1) := by decide +kernel
theorem dX9_isListed_33 : decode cX9_isListed 33 = .ok (.iload_n 2, 1) := by decide +kernel
theorem dX9_isListed_34 : decode cX9_isListed 34 = .ok (.invokevirtual 175, 3) := by decide +kernel
theorem dX9_isListed_37 : decode cX9_isListed 37 = .ok (.if_icmp .eq 5, 3) := by decide +kernel
theorem dX9_isListed_40 : decode cX9_isListed 40 = .ok (.iconst 0, 1) := by decide +kernel
theorem dX9_isListed_41 : decode cX9_isListed 41 = .ok (.ireturn, 1) := by decide +kernel
theorem dX9_isListed_42 : decode cX9_isListed 42 = .ok (.iinc 2 1, 3) := by decide +kernel
theorem dX9_isListed_45 : decode cX9_isListed 45 = .ok (.goto (-28), 3) := by decide +kernel
theorem dX9_isListed_48 : decode cX9_isListed 48 = .ok (.iconst 1, 1) := by decide +kernel
theorem dX9_isListed_49 : decode cX9_isListed 49 = .ok (.ireturn, 1) := by decide +kernel
theorem dX9_fillings_0 : decode cX9_fillings 0 = .ok (.iload_n 3, 1) := by decide +kernel
theorem dX9_fillings_1 : decode cX9_fillings 1 = .ok (.aload_n 0, 1) := by decide +kernel
theorem dX9_fillings_2 : decode cX9_fillings 2 = .ok (.getfield 13, 3) := by decide +kernel
theorem dX9_fillings_5 : decode cX9_fillings 5 = .ok (.iload_n 2, 1) := by decide +kernel
theorem dX9_fillings_6 : decode cX9_fillings 6 = .ok (.iaload, 1) := by decide +kernel
theorem dX9_fillings_7 : decode cX9_fillings 7 = .ok (.if_icmp .ne 5, 3) := by decide +kernel
theorem dX9_fillings_10 : decode cX9_fillings 10 = .ok (.iconst 1, 1) := by decide +kernel
theorem dX9_fillings_11 : decode cX9_fillings 11 = .ok (.ireturn, 1) := by decide +kernel
theorem dX9_fillings_12 : decode cX9_fillings 12 = .ok (.iconst 0, 1) := by decide +kernel
theorem dX9_fillings_13 : decode cX9_fillings 13 = .ok (.istore 4, 2) := by decide +kernel
theorem dX9_fillings_15 : decode cX9_fillings 15 = .ok (.iconst 0, 1) := by decide +kernel
theorem dX9_fillings_16 : decode cX9_fillings 16 = .ok (.istore 5, 2) := by decide +kernel
theorem dX9_fillings_18 : decode cX9_fillings 18 = .ok (.iload 5, 2) := by decide +kernel
theorem dX9_fillings_20 : decode cX9_fillings 20 = .ok (.aload_n 0, 1) := by decide +kernel
theorem dX9_fillings_21 : decode cX9_fillings 21 = .ok (.getfield 13, 3) := by decide +kernel
theorem dX9_fillings_24 : decode cX9_fillings 24 = .ok (.iload_n 1, 1) := by decide +kernel
theorem dX9_fillings_25 : decode cX9_fillings 25 = .ok (.iaload, 1) := by decide +kernel
theorem dX9_fillings_26 : decode cX9_fillings 26 = .ok (.if_icmp .ge 74, 3) := by decide +kernel
theorem dX9_fillings_29 : decode cX9_fillings 29 = .ok (.aload_n 0, 1) := by decide +kernel
theorem dX9_fillings_30 : decode cX9_fillings 30 = .ok (.getfield 146, 3) := by decide +kernel
theorem dX9_fillings_33 : decode cX9_fillings 33 = .ok (.iload 5, 2) := by decide +kernel
theorem dX9_fillings_35 : decode cX9_fillings 35 = .ok (.iaload, 1) := by decide +kernel
theorem dX9_fillings_36 : decode cX9_fillings 36 = .ok (.aload_n 0, 1) := by decide +kernel
theorem dX9_fillings_37 : decode cX9_fillings 37 = .ok (.iload_n 2, 1) := by decide +kernel
theorem dX9_fillings_38 : decode cX9_fillings 38 = .ok (.iload_n 3, 1) := by decide +kernel
theorem dX9_fillings_39 : decode cX9_fillings 39 = .ok (.invokevirtual 175, 3) := by decide +kernel
theorem dX9_fillings_42 : decode cX9_fillings 42 = .ok (.if_icmp .ge 6, 3) := by decide +kernel
theorem dX9_fillings_45 : decode cX9_fillings 45 = .ok (.goto 49, 3) := by decide +kernel
theorem dX9_fillings_48 : decode cX9_fillings 48 = .ok (.aload_n 0, 1) := by decide +kernel
theorem dX9_fillings_49 : decode cX9_fillings 49 = .ok (.getfield 146, 3) := by decide +kernel
theorem dX9_fillings_52 : decode cX9_fillings 52 = .ok (.iload 5, 2) := by decide +kernel
theorem dX9_fillings_54 : decode cX9_fillings 54 = .ok (.dup2, 1) := by decide +kernel
theorem dX9_fillings_55 : decode cX9_fillings 55 = .ok (.iaload, 1) := by decide +kernel
theorem dX9_fillings_56 : decode cX9_fillings 56 = .ok (.aload_n 0, 1) := by decide +kernel
theorem dX9_fillings_57 : decode cX9_fillings 57 = .ok (.iload_n 2, 1) := by decide +kernel
theorem dX9_fillings_58 : decode cX9_fillings 58 = .ok (.iload_n 3, 1) := by decide +kernel
theorem dX9_fillings_59 : decode cX9_fillings 59 = .ok (.invokevirtual 175, 3) := by decide +kernel
theorem dX9_fillings_62 : decode cX9_fillings 62 = .ok (.isub, 1) := by decide +kernel
theorem dX9_fillings_63 : decode cX9_fillings 63 = .ok (.iastore, 1) := by decide +kernel
theorem dX9_fillings_64 : decode cX9_fillings 64 = .ok (.iload 4, 2) := by decide +kernel
theorem dX9_fillings_66 : decode cX9_fillings 66 = .ok (.aload_n 0, 1) := by decide +kernel
theorem dX9_fillings_67 : decode cX9_fillings 67 = .ok (.iload_n 1, 1) := by decide +kernel
theorem dX9_fillings_68 : decode cX9_fillings 68 = .ok (.iload_n 2, 1) := by decide +kernel
theorem dX9_fillings_69 : decode cX9_fillings 69 = .ok (.iload_n 3, 1) := by decide +kernel
theorem dX9_fillings_70 : decode cX9_fillings 70 = .ok (.iconst 1, 1) := by decide +kernel
theorem dX9_fillings_71 : decode cX9_fillings 71 = .ok (.iadd, 1) := by decide +kernel
theorem dX9_fillings_72 : decode cX9_fillings 72 = .ok (.invokevirtual 390, 3) := by decide +kernel
theorem dX9_fillings_75 : decode cX9_fillings 75 = .ok (.iadd, 1) := by decide +kernel
theorem dX9_fillings_76 : decode cX9_fillings 76 = .ok (.istore 4, 2) := by decide +kernel
theorem dX9_fillings_78 : decode cX9_fillings 78 = .ok (.aload_n 0, 1) := by decide +kernel
theorem dX9_fillings_79 : decode cX9_fillings 79 = .ok (.getfield 146, 3) := by decide +kernel
theorem dX9_fillings_82 : decode cX9_fillings 82 = .ok (.iload 5, 2) := by decide +kernel
theorem dX9_fillings_84 : decode cX9_fillings 84 = .ok (.dup2, 1) := by decide +kernel
theorem dX9_fillings_85 : decode cX9_fillings 85 = .ok (.iaload, 1) := by decide +kernel
theorem dX9_fillings_86 : decode cX9_fillings 86 = .ok (.aload_n 0, 1) := by decide +kernel
theorem dX9_fillings_87 : decode cX9_fillings 87 = .ok (.iload_n 2, 1) := by decide +kernel
theorem dX9_fillings_88 : decode cX9_fillings 88 = .ok (.iload_n 3, 1) := by decide +kernel
theorem dX9_fillings_89 : decode cX9_fillings 89 = .ok (.invokevirtual 175, 3) := by decide +kernel
theorem dX9_fillings_92 : decode cX9_fillings 92 = .ok (.iadd, 1) := by decide +kernel
theorem dX9_fillings_93 : decode cX9_fillings 93 = .ok (.iastore, 1) := by decide +kernel
theorem dX9_fillings_94 : decode cX9_fillings 94 = .ok (.iinc 5 1, 3) := by decide +kernel
theorem dX9_fillings_97 : decode cX9_fillings 97 = .ok (.goto (-79), 3) := by decide +kernel
theorem dX9_fillings_100 : decode cX9_fillings 100 = .ok (.iload 4, 2) := by decide +kernel
theorem dX9_fillings_102 : decode cX9_fillings 102 = .ok (.ireturn, 1) := by decide +kernel
theorem dX9_readsNamed_0 : decode cX9_readsNamed 0 = .ok (.aload_n 0, 1) := by decide +kernel
theorem dX9_readsNamed_1 : decode cX9_readsNamed 1 = .ok (.getfield 353, 3) := by decide +kernel
theorem dX9_readsNamed_4 : decode cX9_readsNamed 4 = .ok (.istore_n 2, 1) := by decide +kernel
theorem dX9_readsNamed_5 : decode cX9_readsNamed 5 = .ok (.iload_n 1, 1) := by decide +kernel
theorem dX9_readsNamed_6 : decode cX9_readsNamed 6 = .ok (.bipush 91, 2) := by decide +kernel
theorem dX9_readsNamed_8 : decode cX9_readsNamed 8 = .ok (.if_icmp .eq 32, 3) := by decide +kernel
theorem dX9_readsNamed_11 : decode cX9_readsNamed 11 = .ok (.aload_n 0, 1) := by decide +kernel
theorem dX9_readsNamed_12 : decode cX9_readsNamed 12 = .ok (.dup, 1) := by decide +kernel
theorem dX9_readsNamed_13 : decode cX9_readsNamed 13 = .ok (.getfield 353, 3) := by decide +kernel
theorem dX9_readsNamed_16 : decode cX9_readsNamed 16 = .ok (.iconst 1, 1) := by decide +kernel
theorem dX9_readsNamed_17 : decode cX9_readsNamed 17 = .ok (.iadd, 1) := by decide +kernel
theorem dX9_readsNamed_18 : decode cX9_readsNamed 18 = .ok (.putfield 353, 3) := by decide +kernel
theorem dX9_readsNamed_21 : decode cX9_readsNamed 21 = .ok (.aload_n 0, 1) := by decide +kernel
theorem dX9_readsNamed_22 : decode cX9_readsNamed 22 = .ok (.invokevirtual 364, 3) := by decide +kernel
theorem dX9_readsNamed_25 : decode cX9_readsNamed 25 = .ok (.bipush 91, 2) := by decide +kernel
theorem dX9_readsNamed_27 : decode cX9_readsNamed 27 = .ok (.if_icmp .eq 13, 3) := by decide +kernel
theorem dX9_readsNamed_30 : decode cX9_readsNamed 30 = .ok (.aload_n 0, 1) := by decide +kernel
theorem dX9_readsNamed_31 : decode cX9_readsNamed 31 = .ok (.iconst 1, 1) := by decide +kernel
theorem dX9_readsNamed_32 : decode cX9_readsNamed 32 = .ok (.aload_n 0, 1) := by decide +kernel
theorem dX9_readsNamed_33 : decode cX9_readsNamed 33 = .ok (.getfield 353, 3) := by decide +kernel
theorem dX9_readsNamed_36 : decode cX9_readsNamed 36 = .ok (.invokevirtual 377, 3) := by decide +kernel
theorem dX9_readsNamed_39 : decode cX9_readsNamed 39 = .ok (.ireturn, 1) := by decide +kernel
theorem dX9_readsNamed_40 : decode cX9_readsNamed 40 = .ok (.aload_n 0, 1) := by decide +kernel
theorem dX9_readsNamed_41 : decode cX9_readsNamed 41 = .ok (.invokevirtual 393, 3) := by decide +kernel
theorem dX9_readsNamed_44 : decode cX9_readsNamed 44 = .ok (.istore_n 3, 1) := by decide +kernel
theorem dX9_readsNamed_45 : decode cX9_readsNamed 45 = .ok (.iload_n 3, 1) := by decide +kernel
theorem dX9_readsNamed_46 : decode cX9_readsNamed 46 = .ok (.iconst (-1), 1) := by decide +kernel
theorem dX9_readsNamed_47 : decode cX9_readsNamed 47 = .ok (.if_icmp .ne 5, 3) := by decide +kernel
theorem dX9_readsNamed_50 : decode cX9_readsNamed 50 = .ok (.iconst 0, 1) := by decide +kernel
theorem dX9_readsNamed_51 : decode cX9_readsNamed 51 = .ok (.ireturn, 1) := by decide +kernel
theorem dX9_readsNamed_52 : decode cX9_readsNamed 52 = .ok (.iload_n 1, 1) := by decide +kernel
theorem dX9_readsNamed_53 : decode cX9_readsNamed 53 = .ok (.bipush 68, 2) := by decide +kernel
theorem dX9_readsNamed_55 : decode cX9_readsNamed 55 = .ok (.if_icmp .eq 9, 3) := by decide +kernel
theorem dX9_readsNamed_58 : decode cX9_readsNamed 58 = .ok (.iload_n 1, 1) := by decide +kernel
theorem dX9_readsNamed_59 : decode cX9_readsNamed 59 = .ok (.bipush 80, 2) := by decide +kernel
theorem dX9_readsNamed_61 : decode cX9_readsNamed 61 = .ok (.if_icmp .ne 19, 3) := by decide +kernel
theorem dX9_readsNamed_64 : decode cX9_readsNamed 64 = .ok (.aload_n 0, 1) := by decide +kernel
theorem dX9_readsNamed_65 : decode cX9_readsNamed 65 = .ok (.getfield 22, 3) := by decide +kernel
theorem dX9_readsNamed_68 : decode cX9_readsNamed 68 = .ok (.iload_n 3, 1) := by decide +kernel
theorem dX9_readsNamed_69 : decode cX9_readsNamed 69 = .ok (.baload, 1) := by decide +kernel
theorem dX9_readsNamed_70 : decode cX9_readsNamed 70 = .ok (.ifCond .ne 10, 3) := by decide +kernel
theorem dX9_readsNamed_73 : decode cX9_readsNamed 73 = .ok (.aload_n 0, 1) := by decide +kernel
theorem dX9_readsNamed_74 : decode cX9_readsNamed 74 = .ok (.iconst 3, 1) := by decide +kernel
theorem dX9_readsNamed_75 : decode cX9_readsNamed 75 = .ok (.iload_n 2, 1) := by decide +kernel
theorem dX9_readsNamed_76 : decode cX9_readsNamed 76 = .ok (.invokevirtual 377, 3) := by decide +kernel
theorem dX9_readsNamed_79 : decode cX9_readsNamed 79 = .ok (.ireturn, 1) := by decide +kernel
theorem dX9_readsNamed_80 : decode cX9_readsNamed 80 = .ok (.iconst 0, 1) := by decide +kernel
theorem dX9_readsNamed_81 : decode cX9_readsNamed 81 = .ok (.istore 4, 2) := by decide +kernel
theorem dX9_readsNamed_83 : decode cX9_readsNamed 83 = .ok (.iload 4, 2) := by decide +kernel
theorem dX9_readsNamed_85 : decode cX9_readsNamed 85 = .ok (.aload_n 0, 1) := by decide +kernel
theorem dX9_readsNamed_86 : decode cX9_readsNamed 86 = .ok (.getfield 153, 3) := by decide +kernel
theorem dX9_readsNamed_89 : decode cX9_readsNamed 89 = .ok (.if_icmp .ge 135, 3) := by decide +kernel
theorem dX9_readsNamed_92 : decode cX9_readsNamed 92 = .ok (.iconst 0, 1) := by decide +kernel
theorem dX9_readsNamed_93 : decode cX9_readsNamed 93 = .ok (.istore 5, 2) := by decide +kernel
theorem dX9_readsNamed_95 : decode cX9_readsNamed 95 = .ok (.iload 5, 2) := by decide +kernel
theorem dX9_readsNamed_97 : decode cX9_readsNamed 97 = .ok (.bipush 6, 2) := by decide +kernel
theorem dX9_readsNamed_99 : decode cX9_readsNamed 99 = .ok (.if_icmp .ge 23, 3) := by decide +kernel
theorem dX9_readsNamed_102 : decode cX9_readsNamed 102 = .ok (.aload_n 0, 1) := by decide +kernel
theorem dX9_readsNamed_103 : decode cX9_readsNamed 103 = .ok (.getfield 146, 3) := by decide +kernel
theorem dX9_readsNamed_106 : decode cX9_readsNamed 106 = .ok (.iload 5, 2) := by decide +kernel
theorem dX9_readsNamed_108 : decode cX9_readsNamed 108 = .ok (.aload_n 0, 1) := by decide +kernel
theorem dX9_readsNamed_109 : decode cX9_readsNamed 109 = .ok (.iload_n 3, 1) := by decide +kernel
theorem dX9_readsNamed_110 : decode cX9_readsNamed 110 = .ok (.iload 5, 2) := by decide +kernel
theorem dX9_readsNamed_112 : decode cX9_readsNamed 112 = .ok (.invokevirtual 175, 3) := by decide +kernel
theorem dX9_readsNamed_115 : decode cX9_readsNamed 115 = .ok (.iastore, 1) := by decide +kernel
theorem dX9_readsNamed_116 : decode cX9_readsNamed 116 = .ok (.iinc 5 1, 3) := by decide +kernel
theorem dX9_readsNamed_119 : decode cX9_readsNamed 119 = .ok (.goto (-24), 3) := by decide +kernel
theorem dX9_readsNamed_122 : decode cX9_readsNamed 122 = .ok (.aload_n 0, 1) := by decide +kernel
theorem dX9_readsNamed_123 : decode cX9_readsNamed 123 = .ok (.getfield 140, 3) := by decide +kernel
theorem dX9_readsNamed_126 : decode cX9_readsNamed 126 = .ok (.iload 4, 2) := by decide +kernel
theorem dX9_readsNamed_128 : decode cX9_readsNamed 128 = .ok (.iload_n 1, 1) := by decide +kernel
theorem dX9_readsNamed_129 : decode cX9_readsNamed 129 = .ok (.bipush 91, 2) := by decide +kernel
theorem dX9_readsNamed_131 : decode cX9_readsNamed 131 = .ok (.if_icmp .ne 19, 3) := by decide +kernel
theorem dX9_readsNamed_134 : decode cX9_readsNamed 134 = .ok (.aload_n 0, 1) := by decide +kernel
theorem dX9_readsNamed_135 : decode cX9_readsNamed 135 = .ok (.getfield 38, 3) := by decide +kernel
theorem dX9_readsNamed_138 : decode cX9_readsNamed 138 = .ok (.bipush 11, 2) := by decide +kernel
theorem dX9_readsNamed_140 : decode cX9_readsNamed 140 = .ok (.iload_n 3, 1) := by decide +kernel
theorem dX9_readsNamed_141 : decode cX9_readsNamed 141 = .ok (.imul, 1) := by decide +kernel
theorem dX9_readsNamed_142 : decode cX9_readsNamed 142 = .ok (.iload 4, 2) := by decide +kernel
theorem dX9_readsNamed_144 : decode cX9_readsNamed 144 = .ok (.iadd, 1) := by decide +kernel
theorem dX9_readsNamed_145 : decode cX9_readsNamed 145 = .ok (.iaload, 1) := by decide +kernel
theorem dX9_readsNamed_146 : decode cX9_readsNamed 146 = .ok (.i2l, 1) := by decide +kernel
theorem dX9_readsNamed_147 : decode cX9_readsNamed 147 = .ok (.goto 70, 3) := by decide +kernel
theorem dX9_readsNamed_150 : decode cX9_readsNamed 150 = .ok (.iload_n 1, 1) := by decide +kernel
theorem dX9_readsNamed_151 : decode cX9_readsNamed 151 = .ok (.bipush 80, 2) := by decide +kernel
theorem dX9_readsNamed_153 : decode cX9_readsNamed 153 = .ok (.if_icmp .ne 19, 3) := by decide +kernel
theorem dX9_readsNamed_156 : decode cX9_readsNamed 156 = .ok (.aload_n 0, 1) := by decide +kernel
theorem dX9_readsNamed_157 : decode cX9_readsNamed 157 = .ok (.getfield 105, 3) := by decide +kernel
theorem dX9_readsNamed_160 : decode cX9_readsNamed 160 = .ok (.bipush 11, 2) := by decide +kernel
theorem dX9_readsNamed_162 : decode cX9_readsNamed 162 = .ok (.iload_n 3, 1) := by decide +kernel
theorem dX9_readsNamed_163 : decode cX9_readsNamed 163 = .ok (.imul, 1) := by decide +kernel
theorem dX9_readsNamed_164 : decode cX9_readsNamed 164 = .ok (.iload 4, 2) := by decide +kernel
theorem dX9_readsNamed_166 : decode cX9_readsNamed 166 = .ok (.iadd, 1) := by decide +kernel
theorem dX9_readsNamed_167 : decode cX9_readsNamed 167 = .ok (.iaload, 1) := by decide +kernel
theorem dX9_readsNamed_168 : decode cX9_readsNamed 168 = .ok (.i2l, 1) := by decide +kernel
theorem dX9_readsNamed_169 : decode cX9_readsNamed 169 = .ok (.goto 48, 3) := by decide +kernel
theorem dX9_readsNamed_172 : decode cX9_readsNamed 172 = .ok (.iload_n 1, 1) := by decide +kernel
theorem dX9_readsNamed_173 : decode cX9_readsNamed 173 = .ok (.bipush 77, 2) := by decide +kernel
theorem dX9_readsNamed_175 : decode cX9_readsNamed 175 = .ok (.if_icmp .ne 15, 3) := by decide +kernel
theorem dX9_readsNamed_178 : decode cX9_readsNamed 178 = .ok (.aload_n 0, 1) := by decide +kernel
theorem dX9_readsNamed_179 : decode cX9_readsNamed 179 = .ok (.iload_n 3, 1) := by decide +kernel
theorem dX9_readsNamed_180 : decode cX9_readsNamed 180 = .ok (.iload 4, 2) := by decide +kernel
theorem dX9_readsNamed_182 : decode cX9_readsNamed 182 = .ok (.iconst 0, 1) := by decide +kernel
theorem dX9_readsNamed_183 : decode cX9_readsNamed 183 = .ok (.invokevirtual 390, 3) := by decide +kernel
theorem dX9_readsNamed_186 : decode cX9_readsNamed 186 = .ok (.i2l, 1) := by decide +kernel
theorem dX9_readsNamed_187 : decode cX9_readsNamed 187 = .ok (.goto 30, 3) := by decide +kernel
theorem dX9_readsNamed_190 : decode cX9_readsNamed 190 = .ok (.aload_n 0, 1) := by decide +kernel
theorem dX9_readsNamed_191 : decode cX9_readsNamed 191 = .ok (.getfield 26, 3) := by decide +kernel
theorem dX9_readsNamed_194 : decode cX9_readsNamed 194 = .ok (.iload 4, 2) := by decide +kernel
theorem dX9_readsNamed_196 : decode cX9_readsNamed 196 = .ok (.baload, 1) := by decide +kernel
theorem dX9_readsNamed_197 : decode cX9_readsNamed 197 = .ok (.ifCond .eq 19, 3) := by decide +kernel
theorem dX9_readsNamed_200 : decode cX9_readsNamed 200 = .ok (.aload_n 0, 1) := by decide +kernel
theorem dX9_readsNamed_201 : decode cX9_readsNamed 201 = .ok (.getfield 96, 3) := by decide +kernel
theorem dX9_readsNamed_204 : decode cX9_readsNamed 204 = .ok (.bipush 11, 2) := by decide +kernel
theorem dX9_readsNamed_206 : decode cX9_readsNamed 206 = .ok (.iload_n 3, 1) := by decide +kernel
theorem dX9_readsNamed_207 : decode cX9_readsNamed 207 = .ok (.imul, 1) := by decide +kernel
theorem dX9_readsNamed_208 : decode cX9_readsNamed 208 = .ok (.iload 4, 2) := by decide +kernel
theorem dX9_readsNamed_210 : decode cX9_readsNamed 210 = .ok (.iadd, 1) := by decide +kernel
theorem dX9_readsNamed_211 : decode cX9_readsNamed 211 = .ok (.iaload, 1) := by decide +kernel
theorem dX9_readsNamed_212 : decode cX9_readsNamed 212 = .ok (.i2l, 1) := by decide +kernel
theorem dX9_readsNamed_213 : decode cX9_readsNamed 213 = .ok (.goto 4, 3) := by decide +kernel
theorem dX9_readsNamed_216 : decode cX9_readsNamed 216 = .ok (.lconst 0, 1) := by decide +kernel
theorem dX9_readsNamed_217 : decode cX9_readsNamed 217 = .ok (.lastore, 1) := by decide +kernel
theorem dX9_readsNamed_218 : decode cX9_readsNamed 218 = .ok (.iinc 4 1, 3) := by decide +kernel
theorem dX9_readsNamed_221 : decode cX9_readsNamed 221 = .ok (.goto (-138), 3) := by decide +kernel
theorem dX9_readsNamed_224 : decode cX9_readsNamed 224 = .ok (.iconst 1, 1) := by decide +kernel
theorem dX9_readsNamed_225 : decode cX9_readsNamed 225 = .ok (.ireturn, 1) := by decide +kernel
theorem dX9_readsSlot_0 : decode cX9_readsSlot 0 = .ok (.aload_n 0, 1) := by decide +kernel
theorem dX9_readsSlot_1 : decode cX9_readsSlot 1 = .ok (.dup, 1) := by decide +kernel
theorem dX9_readsSlot_2 : decode cX9_readsSlot 2 = .ok (.getfield 353, 3) := by decide +kernel
theorem dX9_readsSlot_5 : decode cX9_readsSlot 5 = .ok (.iconst 1, 1) := by decide +kernel
theorem dX9_readsSlot_6 : decode cX9_readsSlot 6 = .ok (.iadd, 1) := by decide +kernel
theorem dX9_readsSlot_7 : decode cX9_readsSlot 7 = .ok (.putfield 353, 3) := by decide +kernel
theorem dX9_readsSlot_10 : decode cX9_readsSlot 10 = .ok (.aload_n 0, 1) := by decide +kernel
theorem dX9_readsSlot_11 : decode cX9_readsSlot 11 = .ok (.invokevirtual 383, 3) := by decide +kernel
theorem dX9_readsSlot_14 : decode cX9_readsSlot 14 = .ok (.ifCond .ne 5, 3) := by decide +kernel
theorem dX9_readsSlot_17 : decode cX9_readsSlot 17 = .ok (.iconst 0, 1) := by decide +kernel
theorem dX9_readsSlot_18 : decode cX9_readsSlot 18 = .ok (.ireturn, 1) := by decide +kernel
theorem dX9_readsSlot_19 : decode cX9_readsSlot 19 = .ok (.aload_n 0, 1) := by decide +kernel
theorem dX9_readsSlot_20 : decode cX9_readsSlot 20 = .ok (.getfield 370, 3) := by decide +kernel
theorem dX9_readsSlot_23 : decode cX9_readsSlot 23 = .ok (.invokestatic 319, 3) := by decide +kernel
theorem dX9_readsSlot_26 : decode cX9_readsSlot 26 = .ok (.ifCond .ne 13, 3) := by decide +kernel
theorem dX9_readsSlot_29 : decode cX9_readsSlot 29 = .ok (.aload_n 0, 1) := by decide +kernel
theorem dX9_readsSlot_30 : decode cX9_readsSlot 30 = .ok (.iconst 4, 1) := by decide +kernel
theorem dX9_readsSlot_31 : decode cX9_readsSlot 31 = .ok (.aload_n 0, 1) := by decide +kernel
theorem dX9_readsSlot_32 : decode cX9_readsSlot 32 = .ok (.getfield 367, 3) := by decide +kernel
theorem dX9_readsSlot_35 : decode cX9_readsSlot 35 = .ok (.invokevirtual 377, 3) := by decide +kernel
theorem dX9_readsSlot_38 : decode cX9_readsSlot 38 = .ok (.ireturn, 1) := by decide +kernel
theorem dX9_readsSlot_39 : decode cX9_readsSlot 39 = .ok (.iconst 0, 1) := by decide +kernel
theorem dX9_readsSlot_40 : decode cX9_readsSlot 40 = .ok (.istore_n 1, 1) := by decide +kernel
theorem dX9_readsSlot_41 : decode cX9_readsSlot 41 = .ok (.iload_n 1, 1) := by decide +kernel
theorem dX9_readsSlot_42 : decode cX9_readsSlot 42 = .ok (.aload_n 0, 1) := by decide +kernel
theorem dX9_readsSlot_43 : decode cX9_readsSlot 43 = .ok (.getfield 153, 3) := by decide +kernel
theorem dX9_readsSlot_46 : decode cX9_readsSlot 46 = .ok (.if_icmp .ge 29, 3) := by decide +kernel
theorem dX9_readsSlot_49 : decode cX9_readsSlot 49 = .ok (.aload_n 0, 1) := by decide +kernel
theorem dX9_readsSlot_50 : decode cX9_readsSlot 50 = .ok (.getfield 140, 3) := by decide +kernel
theorem dX9_readsSlot_53 : decode cX9_readsSlot 53 = .ok (.iload_n 1, 1) := by decide +kernel
theorem dX9_readsSlot_54 : decode cX9_readsSlot 54 = .ok (.aload_n 0, 1) := by decide +kernel
theorem dX9_readsSlot_55 : decode cX9_readsSlot 55 = .ok (.getfield 115, 3) := by decide +kernel
theorem dX9_readsSlot_58 : decode cX9_readsSlot 58 = .ok (.bipush 11, 2) := by decide +kernel
theorem dX9_readsSlot_60 : decode cX9_readsSlot 60 = .ok (.aload_n 0, 1) := by decide +kernel
theorem dX9_readsSlot_61 : decode cX9_readsSlot 61 = .ok (.getfield 370, 3) := by decide +kernel
theorem dX9_readsSlot_64 : decode cX9_readsSlot 64 = .ok (.imul, 1) := by decide +kernel
theorem dX9_readsSlot_65 : decode cX9_readsSlot 65 = .ok (.iload_n 1, 1) := by decide +kernel
theorem dX9_readsSlot_66 : decode cX9_readsSlot 66 = .ok (.iadd, 1) := by decide +kernel
theorem dX9_readsSlot_67 : decode cX9_readsSlot 67 = .ok (.laload, 1) := by decide +kernel
theorem dX9_readsSlot_68 : decode cX9_readsSlot 68 = .ok (.lastore, 1) := by decide +kernel
theorem dX9_readsSlot_69 : decode cX9_readsSlot 69 = .ok (.iinc 1 1, 3) := by decide +kernel
theorem dX9_readsSlot_72 : decode cX9_readsSlot 72 = .ok (.goto (-31), 3) := by decide +kernel
theorem dX9_readsSlot_75 : decode cX9_readsSlot 75 = .ok (.iconst 1, 1) := by decide +kernel
theorem dX9_readsSlot_76 : decode cX9_readsSlot 76 = .ok (.ireturn, 1) := by decide +kernel
theorem dX9_readsInner_0 : decode cX9_readsInner 0 = .ok (.aload_n 0, 1) := by decide +kernel
theorem dX9_readsInner_1 : decode cX9_readsInner 1 = .ok (.getfield 396, 3) := by decide +kernel
theorem dX9_readsInner_4 : decode cX9_readsInner 4 = .ok (.iconst 4, 1) := by decide +kernel
theorem dX9_readsInner_5 : decode cX9_readsInner 5 = .ok (.if_icmp .ne 13, 3) := by decide +kernel
theorem dX9_readsInner_8 : decode cX9_readsInner 8 = .ok (.aload_n 0, 1) := by decide +kernel
theorem dX9_readsInner_9 : decode cX9_readsInner 9 = .ok (.iconst 5, 1) := by decide +kernel
theorem dX9_readsInner_10 : decode cX9_readsInner 10 = .ok (.aload_n 0, 1) := by decide +kernel
theorem dX9_readsInner_11 : decode cX9_readsInner 11 = .ok (.getfield 353, 3) := by decide +kernel
theorem dX9_readsInner_14 : decode cX9_readsInner 14 = .ok (.invokevirtual 377, 3) := by decide +kernel
theorem dX9_readsInner_17 : decode cX9_readsInner 17 = .ok (.ireturn, 1) := by decide +kernel
theorem dX9_readsInner_18 : decode cX9_readsInner 18 = .ok (.aload_n 0, 1) := by decide +kernel
theorem dX9_readsInner_19 : decode cX9_readsInner 19 = .ok (.dup, 1) := by decide +kernel
theorem dX9_readsInner_20 : decode cX9_readsInner 20 = .ok (.getfield 353, 3) := by decide +kernel
theorem dX9_readsInner_23 : decode cX9_readsInner 23 = .ok (.iconst 1, 1) := by decide +kernel
theorem dX9_readsInner_24 : decode cX9_readsInner 24 = .ok (.iadd, 1) := by decide +kernel
theorem dX9_readsInner_25 : decode cX9_readsInner 25 = .ok (.putfield 353, 3) := by decide +kernel
theorem dX9_readsInner_28 : decode cX9_readsInner 28 = .ok (.aload_n 0, 1) := by decide +kernel
theorem dX9_readsInner_29 : decode cX9_readsInner 29 = .ok (.dup, 1) := by decide +kernel
theorem dX9_readsInner_30 : decode cX9_readsInner 30 = .ok (.getfield 396, 3) := by decide +kernel
theorem dX9_readsInner_33 : decode cX9_readsInner 33 = .ok (.iconst 1, 1) := by decide +kernel
theorem dX9_readsInner_34 : decode cX9_readsInner 34 = .ok (.iadd, 1) := by decide +kernel
theorem dX9_readsInner_35 : decode cX9_readsInner 35 = .ok (.putfield 396, 3) := by decide +kernel
theorem dX9_readsInner_38 : decode cX9_readsInner 38 = .ok (.aload_n 0, 1) := by decide +kernel
theorem dX9_readsInner_39 : decode cX9_readsInner 39 = .ok (.invokevirtual 399, 3) := by decide +kernel
theorem dX9_readsInner_42 : decode cX9_readsInner 42 = .ok (.ifCond .ne 5, 3) := by decide +kernel
theorem dX9_readsInner_45 : decode cX9_readsInner 45 = .ok (.iconst 0, 1) := by decide +kernel
theorem dX9_readsInner_46 : decode cX9_readsInner 46 = .ok (.ireturn, 1) := by decide +kernel
theorem dX9_readsInner_47 : decode cX9_readsInner 47 = .ok (.aload_n 0, 1) := by decide +kernel
theorem dX9_readsInner_48 : decode cX9_readsInner 48 = .ok (.invokevirtual 364, 3) := by decide +kernel
theorem dX9_readsInner_51 : decode cX9_readsInner 51 = .ok (.bipush 41, 2) := by decide +kernel
theorem dX9_readsInner_53 : decode cX9_readsInner 53 = .ok (.if_icmp .eq 13, 3) := by decide +kernel
theorem dX9_readsInner_56 : decode cX9_readsInner 56 = .ok (.aload_n 0, 1) := by decide +kernel
theorem dX9_readsInner_57 : decode cX9_readsInner 57 = .ok (.iconst 1, 1) := by decide +kernel
theorem dX9_readsInner_58 : decode cX9_readsInner 58 = .ok (.aload_n 0, 1) := by decide +kernel
theorem dX9_readsInner_59 : decode cX9_readsInner 59 = .ok (.getfield 353, 3) := by decide +kernel
theorem dX9_readsInner_62 : decode cX9_readsInner 62 = .ok (.invokevirtual 377, 3) := by decide +kernel
theorem dX9_readsInner_65 : decode cX9_readsInner 65 = .ok (.ireturn, 1) := by decide +kernel
theorem dX9_readsInner_66 : decode cX9_readsInner 66 = .ok (.aload_n 0, 1) := by decide +kernel
theorem dX9_readsInner_67 : decode cX9_readsInner 67 = .ok (.dup, 1) := by decide +kernel
theorem dX9_readsInner_68 : decode cX9_readsInner 68 = .ok (.getfield 353, 3) := by decide +kernel
theorem dX9_readsInner_71 : decode cX9_readsInner 71 = .ok (.iconst 1, 1) := by decide +kernel
theorem dX9_readsInner_72 : decode cX9_readsInner 72 = .ok (.iadd, 1) := by decide +kernel
theorem dX9_readsInner_73 : decode cX9_readsInner 73 = .ok (.putfield 353, 3) := by decide +kernel
theorem dX9_readsInner_76 : decode cX9_readsInner 76 = .ok (.iconst 0, 1) := by decide +kernel
theorem dX9_readsInner_77 : decode cX9_readsInner 77 = .ok (.istore_n 1, 1) := by decide +kernel
theorem dX9_readsInner_78 : decode cX9_readsInner 78 = .ok (.iload_n 1, 1) := by decide +kernel
theorem dX9_readsInner_79 : decode cX9_readsInner 79 = .ok (.aload_n 0, 1) := by decide +kernel
theorem dX9_readsInner_80 : decode cX9_readsInner 80 = .ok (.getfield 153, 3) := by decide +kernel
theorem dX9_readsInner_83 : decode cX9_readsInner 83 = .ok (.if_icmp .ge 29, 3) := by decide +kernel
theorem dX9_readsInner_86 : decode cX9_readsInner 86 = .ok (.aload_n 0, 1) := by decide +kernel
theorem dX9_readsInner_87 : decode cX9_readsInner 87 = .ok (.getfield 140, 3) := by decide +kernel
theorem dX9_readsInner_90 : decode cX9_readsInner 90 = .ok (.iload_n 1, 1) := by decide +kernel
theorem dX9_readsInner_91 : decode cX9_readsInner 91 = .ok (.aload_n 0, 1) := by decide +kernel
theorem dX9_readsInner_92 : decode cX9_readsInner 92 = .ok (.getfield 134, 3) := by decide +kernel
theorem dX9_readsInner_95 : decode cX9_readsInner 95 = .ok (.bipush 11, 2) := by decide +kernel
theorem dX9_readsInner_97 : decode cX9_readsInner 97 = .ok (.aload_n 0, 1) := by decide +kernel
theorem dX9_readsInner_98 : decode cX9_readsInner 98 = .ok (.getfield 396, 3) := by decide +kernel
theorem dX9_readsInner_101 : decode cX9_readsInner 101 = .ok (.imul, 1) := by decide +kernel
theorem dX9_readsInner_102 : decode cX9_readsInner 102 = .ok (.iload_n 1, 1) := by decide +kernel
theorem dX9_readsInner_103 : decode cX9_readsInner 103 = .ok (.iadd, 1) := by decide +kernel
theorem dX9_readsInner_104 : decode cX9_readsInner 104 = .ok (.laload, 1) := by decide +kernel
theorem dX9_readsInner_105 : decode cX9_readsInner 105 = .ok (.lastore, 1) := by decide +kernel
theorem dX9_readsInner_106 : decode cX9_readsInner 106 = .ok (.iinc 1 1, 3) := by decide +kernel
theorem dX9_readsInner_109 : decode cX9_readsInner 109 = .ok (.goto (-31), 3) := by decide +kernel
theorem dX9_readsInner_112 : decode cX9_readsInner 112 = .ok (.aload_n 0, 1) := by decide +kernel
theorem dX9_readsInner_113 : decode cX9_readsInner 113 = .ok (.dup, 1) := by decide +kernel
theorem dX9_readsInner_114 : decode cX9_readsInner 114 = .ok (.getfield 396, 3) := by decide +kernel
theorem dX9_readsInner_117 : decode cX9_readsInner 117 = .ok (.iconst 1, 1) := by decide +kernel
theorem dX9_readsInner_118 : decode cX9_readsInner 118 = .ok (.isub, 1) := by decide +kernel
theorem dX9_readsInner_119 : decode cX9_readsInner 119 = .ok (.putfield 396, 3) := by decide +kernel
theorem dX9_readsInner_122 : decode cX9_readsInner 122 = .ok (.iconst 1, 1) := by decide +kernel
theorem dX9_readsInner_123 : decode cX9_readsInner 123 = .ok (.ireturn, 1) := by decide +kernel
theorem dX9_readsFactor_0 : decode cX9_readsFactor 0 = .ok (.aload_n 0, 1) := by decide +kernel
theorem dX9_readsFactor_1 : decode cX9_readsFactor 1 = .ok (.invokevirtual 402, 3) := by decide +kernel
theorem dX9_readsFactor_4 : decode cX9_readsFactor 4 = .ok (.aload_n 0, 1) := by decide +kernel
theorem dX9_readsFactor_5 : decode cX9_readsFactor 5 = .ok (.invokevirtual 364, 3) := by decide +kernel
theorem dX9_readsFactor_8 : decode cX9_readsFactor 8 = .ok (.istore_n 1, 1) := by decide +kernel
theorem dX9_readsFactor_9 : decode cX9_readsFactor 9 = .ok (.iload_n 1, 1) := by decide +kernel
theorem dX9_readsFactor_10 : decode cX9_readsFactor 10 = .ok (.bipush 40, 2) := by decide +kernel
theorem dX9_readsFactor_12 : decode cX9_readsFactor 12 = .ok (.if_icmp .ne 11, 3) := by decide +kernel
theorem dX9_readsFactor_15 : decode cX9_readsFactor 15 = .ok (.aload_n 0, 1) := by decide +kernel
theorem dX9_readsFactor_16 : decode cX9_readsFactor 16 = .ok (.invokevirtual 405, 3) := by decide +kernel
theorem dX9_readsFactor_19 : decode cX9_readsFactor 19 = .ok (.istore_n 2, 1) := by decide +kernel
theorem dX9_readsFactor_20 : decode cX9_readsFactor 20 = .ok (.goto 132, 3) := by decide +kernel
theorem dX9_readsFactor_23 : decode cX9_readsFactor 23 = .ok (.iload_n 1, 1) := by decide +kernel
theorem dX9_readsFactor_24 : decode cX9_readsFactor 24 = .ok (.bipush 91, 2) := by decide +kernel
theorem dX9_readsFactor_26 : decode cX9_readsFactor 26 = .ok (.if_icmp .eq 21, 3) := by decide +kernel
theorem dX9_readsFactor_29 : decode cX9_readsFactor 29 = .ok (.iload_n 1, 1) := by decide +kernel
theorem dX9_readsFactor_30 : decode cX9_readsFactor 30 = .ok (.bipush 68, 2) := by decide +kernel
theorem dX9_readsFactor_32 : decode cX9_readsFactor 32 = .ok (.if_icmp .eq 15, 3) := by decide +kernel
theorem dX9_readsFactor_35 : decode cX9_readsFactor 35 = .ok (.iload_n 1, 1) := by decide +kernel
theorem dX9_readsFactor_36 : decode cX9_readsFactor 36 = .ok (.bipush 80, 2) := by decide +kernel
theorem dX9_readsFactor_38 : decode cX9_readsFactor 38 = .ok (.if_icmp .eq 9, 3) := by decide +kernel
theorem dX9_readsFactor_41 : decode cX9_readsFactor 41 = .ok (.iload_n 1, 1) := by decide +kernel
theorem dX9_readsFactor_42 : decode cX9_readsFactor 42 = .ok (.bipush 77, 2) := by decide +kernel
theorem dX9_readsFactor_44 : decode cX9_readsFactor 44 = .ok (.if_icmp .ne 12, 3) := by decide +kernel
theorem dX9_readsFactor_47 : decode cX9_readsFactor 47 = .ok (.aload_n 0, 1) := by decide +kernel
theorem dX9_readsFactor_48 : decode cX9_readsFactor 48 = .ok (.iload_n 1, 1) := by decide +kernel
theorem dX9_readsFactor_49 : decode cX9_readsFactor 49 = .ok (.invokevirtual 408, 3) := by decide +kernel
theorem dX9_readsFactor_52 : decode cX9_readsFactor 52 = .ok (.istore_n 2, 1) := by decide +kernel
theorem dX9_readsFactor_53 : decode cX9_readsFactor 53 = .ok (.goto 99, 3) := by decide +kernel
theorem dX9_readsFactor_56 : decode cX9_readsFactor 56 = .ok (.iload_n 1, 1) := by decide +kernel
theorem dX9_readsFactor_57 : decode cX9_readsFactor 57 = .ok (.bipush 88, 2) := by decide +kernel
theorem dX9_readsFactor_59 : decode cX9_readsFactor 59 = .ok (.if_icmp .ne 11, 3) := by decide +kernel
theorem dX9_readsFactor_62 : decode cX9_readsFactor 62 = .ok (.aload_n 0, 1) := by decide +kernel
theorem dX9_readsFactor_63 : decode cX9_readsFactor 63 = .ok (.invokevirtual 411, 3) := by decide +kernel
theorem dX9_readsFactor_66 : decode cX9_readsFactor 66 = .ok (.istore_n 2, 1) := by decide +kernel
theorem dX9_readsFactor_67 : decode cX9_readsFactor 67 = .ok (.goto 85, 3) := by decide +kernel
theorem dX9_readsFactor_70 : decode cX9_readsFactor 70 = .ok (.iload_n 1, 1) := by decide +kernel
theorem dX9_readsFactor_71 : decode cX9_readsFactor 71 = .ok (.bipush 83, 2) := by decide +kernel
theorem dX9_readsFactor_73 : decode cX9_readsFactor 73 = .ok (.if_icmp .ne 47, 3) := by decide +kernel
theorem dX9_readsFactor_76 : decode cX9_readsFactor 76 = .ok (.aload_n 0, 1) := by decide +kernel
theorem dX9_readsFactor_77 : decode cX9_readsFactor 77 = .ok (.dup, 1) := by decide +kernel
theorem dX9_readsFactor_78 : decode cX9_readsFactor 78 = .ok (.getfield 353, 3) := by decide +kernel
theorem dX9_readsFactor_81 : decode cX9_readsFactor 81 = .ok (.iconst 1, 1) := by decide +kernel
theorem dX9_readsFactor_82 : decode cX9_readsFactor 82 = .ok (.iadd, 1) := by decide +kernel
theorem dX9_readsFactor_83 : decode cX9_readsFactor 83 = .ok (.putfield 353, 3) := by decide +kernel
theorem dX9_readsFactor_86 : decode cX9_readsFactor 86 = .ok (.iconst 0, 1) := by decide +kernel
theorem dX9_readsFactor_87 : decode cX9_readsFactor 87 = .ok (.istore_n 3, 1) := by decide +kernel
theorem dX9_readsFactor_88 : decode cX9_readsFactor 88 = .ok (.iload_n 3, 1) := by decide +kernel
theorem dX9_readsFactor_89 : decode cX9_readsFactor 89 = .ok (.aload_n 0, 1) := by decide +kernel
theorem dX9_readsFactor_90 : decode cX9_readsFactor 90 = .ok (.getfield 153, 3) := by decide +kernel
theorem dX9_readsFactor_93 : decode cX9_readsFactor 93 = .ok (.if_icmp .ge 22, 3) := by decide +kernel
theorem dX9_readsFactor_96 : decode cX9_readsFactor 96 = .ok (.aload_n 0, 1) := by decide +kernel
theorem dX9_readsFactor_97 : decode cX9_readsFactor 97 = .ok (.getfield 140, 3) := by decide +kernel
theorem dX9_readsFactor_100 : decode cX9_readsFactor 100 = .ok (.iload_n 3, 1) := by decide +kernel
theorem dX9_readsFactor_101 : decode cX9_readsFactor 101 = .ok (.aload_n 0, 1) := by decide +kernel
theorem dX9_readsFactor_102 : decode cX9_readsFactor 102 = .ok (.getfield 29, 3) := by decide +kernel
theorem dX9_readsFactor_105 : decode cX9_readsFactor 105 = .ok (.iload_n 3, 1) := by decide +kernel
theorem dX9_readsFactor_106 : decode cX9_readsFactor 106 = .ok (.iaload, 1) := by decide +kernel
theorem dX9_readsFactor_107 : decode cX9_readsFactor 107 = .ok (.i2l, 1) := by decide +kernel
theorem dX9_readsFactor_108 : decode cX9_readsFactor 108 = .ok (.lastore, 1) := by decide +kernel
theorem dX9_readsFactor_109 : decode cX9_readsFactor 109 = .ok (.iinc 3 1, 3) := by decide +kernel
theorem dX9_readsFactor_112 : decode cX9_readsFactor 112 = .ok (.goto (-24), 3) := by decide +kernel
theorem dX9_readsFactor_115 : decode cX9_readsFactor 115 = .ok (.iconst 1, 1) := by decide +kernel
theorem dX9_readsFactor_116 : decode cX9_readsFactor 116 = .ok (.istore_n 2, 1) := by decide +kernel
theorem dX9_readsFactor_117 : decode cX9_readsFactor 117 = .ok (.goto 35, 3) := by decide +kernel
theorem dX9_readsFactor_120 : decode cX9_readsFactor 120 = .ok (.aload_n 0, 1) := by decide +kernel
theorem dX9_readsFactor_121 : decode cX9_readsFactor 121 = .ok (.invokevirtual 383, 3) := by decide +kernel
theorem dX9_readsFactor_124 : decode cX9_readsFactor 124 = .ok (.istore_n 2, 1) := by decide +kernel
theorem dX9_readsFactor_125 : decode cX9_readsFactor 125 = .ok (.iconst 0, 1) := by decide +kernel
theorem dX9_readsFactor_126 : decode cX9_readsFactor 126 = .ok (.istore_n 3, 1) := by decide +kernel
theorem dX9_readsFactor_127 : decode cX9_readsFactor 127 = .ok (.iload_n 3, 1) := by decide +kernel
theorem dX9_readsFactor_128 : decode cX9_readsFactor 128 = .ok (.aload_n 0, 1) := by decide +kernel
theorem dX9_readsFactor_129 : decode cX9_readsFactor 129 = .ok (.getfield 153, 3) := by decide +kernel
theorem dX9_readsFactor_132 : decode cX9_readsFactor 132 = .ok (.if_icmp .ge 20, 3) := by decide +kernel
theorem dX9_readsFactor_135 : decode cX9_readsFactor 135 = .ok (.aload_n 0, 1) := by decide +kernel
theorem dX9_readsFactor_136 : decode cX9_readsFactor 136 = .ok (.getfield 140, 3) := by decide +kernel
theorem dX9_readsFactor_139 : decode cX9_readsFactor 139 = .ok (.iload_n 3, 1) := by decide +kernel
theorem dX9_readsFactor_140 : decode cX9_readsFactor 140 = .ok (.aload_n 0, 1) := by decide +kernel
theorem dX9_readsFactor_141 : decode cX9_readsFactor 141 = .ok (.getfield 370, 3) := by decide +kernel
theorem dX9_readsFactor_144 : decode cX9_readsFactor 144 = .ok (.i2l, 1) := by decide +kernel
theorem dX9_readsFactor_145 : decode cX9_readsFactor 145 = .ok (.lastore, 1) := by decide +kernel
theorem dX9_readsFactor_146 : decode cX9_readsFactor 146 = .ok (.iinc 3 1, 3) := by decide +kernel
theorem dX9_readsFactor_149 : decode cX9_readsFactor 149 = .ok (.goto (-22), 3) := by decide +kernel
theorem dX9_readsFactor_152 : decode cX9_readsFactor 152 = .ok (.iload_n 2, 1) := by decide +kernel
theorem dX9_readsFactor_153 : decode cX9_readsFactor 153 = .ok (.ifCond .eq 13, 3) := by decide +kernel
theorem dX9_readsFactor_156 : decode cX9_readsFactor 156 = .ok (.aload_n 0, 1) := by decide +kernel
theorem dX9_readsFactor_157 : decode cX9_readsFactor 157 = .ok (.dup, 1) := by decide +kernel
theorem dX9_readsFactor_158 : decode cX9_readsFactor 158 = .ok (.getfield 359, 3) := by decide +kernel
theorem dX9_readsFactor_161 : decode cX9_readsFactor 161 = .ok (.iconst 1, 1) := by decide +kernel
theorem dX9_readsFactor_162 : decode cX9_readsFactor 162 = .ok (.isub, 1) := by decide +kernel
theorem dX9_readsFactor_163 : decode cX9_readsFactor 163 = .ok (.putfield 359, 3) := by decide +kernel
theorem dX9_readsFactor_166 : decode cX9_readsFactor 166 = .ok (.iload_n 2, 1) := by decide +kernel
theorem dX9_readsFactor_167 : decode cX9_readsFactor 167 = .ok (.ireturn, 1) := by decide +kernel
theorem dX9_areNear_0 : decode cX9_areNear 0 = .ok (.iconst 0, 1) := by decide +kernel
theorem dX9_areNear_1 : decode cX9_areNear 1 = .ok (.istore_n 2, 1) := by decide +kernel
theorem dX9_areNear_2 : decode cX9_areNear 2 = .ok (.iload_n 2, 1) := by decide +kernel
theorem dX9_areNear_3 : decode cX9_areNear 3 = .ok (.aload_n 0, 1) := by decide +kernel
theorem dX9_areNear_4 : decode cX9_areNear 4 = .ok (.getfield 153, 3) := by decide +kernel
theorem dX9_areNear_7 : decode cX9_areNear 7 = .ok (.if_icmp .ge 34, 3) := by decide +kernel
theorem dX9_areNear_10 : decode cX9_areNear 10 = .ok (.aload_n 1, 1) := by decide +kernel
theorem dX9_areNear_11 : decode cX9_areNear 11 = .ok (.bipush 11, 2) := by decide +kernel
theorem dX9_areNear_13 : decode cX9_areNear 13 = .ok (.aload_n 0, 1) := by decide +kernel
theorem dX9_areNear_14 : decode cX9_areNear 14 = .ok (.getfield 396, 3) := by decide +kernel
theorem dX9_areNear_17 : decode cX9_areNear 17 = .ok (.imul, 1) := by decide +kernel
theorem dX9_areNear_18 : decode cX9_areNear 18 = .ok (.iload_n 2, 1) := by decide +kernel
theorem dX9_areNear_19 : decode cX9_areNear 19 = .ok (.iadd, 1) := by decide +kernel
theorem dX9_areNear_20 : decode cX9_areNear 20 = .ok (.laload, 1) := by decide +kernel
theorem dX9_areNear_21 : decode cX9_areNear 21 = .ok (.ldc2_w 414, 3) := by decide +kernel
theorem dX9_areNear_24 : decode cX9_areNear 24 = .ok (.ldc2_w 416, 3) := by decide +kernel
theorem dX9_areNear_27 : decode cX9_areNear 27 = .ok (.invokestatic 283, 3) := by decide +kernel
theorem dX9_areNear_30 : decode cX9_areNear 30 = .ok (.ifCond .ne 5, 3) := by decide +kernel
theorem dX9_areNear_33 : decode cX9_areNear 33 = .ok (.iconst 0, 1) := by decide +kernel
theorem dX9_areNear_34 : decode cX9_areNear 34 = .ok (.ireturn, 1) := by decide +kernel
theorem dX9_areNear_35 : decode cX9_areNear 35 = .ok (.iinc 2 1, 3) := by decide +kernel
theorem dX9_areNear_38 : decode cX9_areNear 38 = .ok (.goto (-36), 3) := by decide +kernel
theorem dX9_areNear_41 : decode cX9_areNear 41 = .ok (.iconst 1, 1) := by decide +kernel
theorem dX9_areNear_42 : decode cX9_areNear 42 = .ok (.ireturn, 1) := by decide +kernel
theorem dX9_readsTerm_0 : decode cX9_readsTerm 0 = .ok (.aload_n 0, 1) := by decide +kernel
theorem dX9_readsTerm_1 : decode cX9_readsTerm 1 = .ok (.invokevirtual 402, 3) := by decide +kernel
theorem dX9_readsTerm_4 : decode cX9_readsTerm 4 = .ok (.aload_n 0, 1) := by decide +kernel
theorem dX9_readsTerm_5 : decode cX9_readsTerm 5 = .ok (.invokevirtual 418, 3) := by decide +kernel
theorem dX9_readsTerm_8 : decode cX9_readsTerm 8 = .ok (.ifCond .ne 5, 3) := by decide +kernel
theorem dX9_readsTerm_11 : decode cX9_readsTerm 11 = .ok (.iconst 0, 1) := by decide +kernel
theorem dX9_readsTerm_12 : decode cX9_readsTerm 12 = .ok (.ireturn, 1) := by decide +kernel
theorem dX9_readsTerm_13 : decode cX9_readsTerm 13 = .ok (.iconst 0, 1) := by decide +kernel
theorem dX9_readsTerm_14 : decode cX9_readsTerm 14 = .ok (.istore_n 1, 1) := by decide +kernel
theorem dX9_readsTerm_15 : decode cX9_readsTerm 15 = .ok (.iload_n 1, 1) := by decide +kernel
theorem dX9_readsTerm_16 : decode cX9_readsTerm 16 = .ok (.aload_n 0, 1) := by decide +kernel
theorem dX9_readsTerm_17 : decode cX9_readsTerm 17 = .ok (.getfield 153, 3) := by decide +kernel
theorem dX9_readsTerm_20 : decode cX9_readsTerm 20 = .ok (.if_icmp .ge 29, 3) := by decide +kernel
theorem dX9_readsTerm_23 : decode cX9_readsTerm 23 = .ok (.aload_n 0, 1) := by decide +kernel
theorem dX9_readsTerm_24 : decode cX9_readsTerm 24 = .ok (.getfield 137, 3) := by decide +kernel
theorem dX9_readsTerm_27 : decode cX9_readsTerm 27 = .ok (.bipush 11, 2) := by decide +kernel
theorem dX9_readsTerm_29 : decode cX9_readsTerm 29 = .ok (.aload_n 0, 1) := by decide +kernel
theorem dX9_readsTerm_30 : decode cX9_readsTerm 30 = .ok (.getfield 396, 3) := by decide +kernel
theorem dX9_readsTerm_33 : decode cX9_readsTerm 33 = .ok (.imul, 1) := by decide +kernel
theorem dX9_readsTerm_34 : decode cX9_readsTerm 34 = .ok (.iload_n 1, 1) := by decide +kernel
theorem dX9_readsTerm_35 : decode cX9_readsTerm 35 = .ok (.iadd, 1) := by decide +kernel
theorem dX9_readsTerm_36 : decode cX9_readsTerm 36 = .ok (.aload_n 0, 1) := by decide +kernel
theorem dX9_readsTerm_37 : decode cX9_readsTerm 37 = .ok (.getfield 140, 3) := by decide +kernel
theorem dX9_readsTerm_40 : decode cX9_readsTerm 40 = .ok (.iload_n 1, 1) := by decide +kernel
theorem dX9_readsTerm_41 : decode cX9_readsTerm 41 = .ok (.laload, 1) := by decide +kernel
theorem dX9_readsTerm_42 : decode cX9_readsTerm 42 = .ok (.lastore, 1) := by decide +kernel
theorem dX9_readsTerm_43 : decode cX9_readsTerm 43 = .ok (.iinc 1 1, 3) := by decide +kernel
theorem dX9_readsTerm_46 : decode cX9_readsTerm 46 = .ok (.goto (-31), 3) := by decide +kernel
theorem dX9_readsTerm_49 : decode cX9_readsTerm 49 = .ok (.aload_n 0, 1) := by decide +kernel
theorem dX9_readsTerm_50 : decode cX9_readsTerm 50 = .ok (.invokevirtual 364, 3) := by decide +kernel
theorem dX9_readsTerm_53 : decode cX9_readsTerm 53 = .ok (.bipush 42, 2) := by decide +kernel
theorem dX9_readsTerm_55 : decode cX9_readsTerm 55 = .ok (.if_icmp .ne 138, 3) := by decide +kernel
theorem dX9_readsTerm_58 : decode cX9_readsTerm 58 = .ok (.aload_n 0, 1) := by decide +kernel
theorem dX9_readsTerm_59 : decode cX9_readsTerm 59 = .ok (.getfield 353, 3) := by decide +kernel
theorem dX9_readsTerm_62 : decode cX9_readsTerm 62 = .ok (.istore_n 1, 1) := by decide +kernel
theorem dX9_readsTerm_63 : decode cX9_readsTerm 63 = .ok (.aload_n 0, 1) := by decide +kernel
theorem dX9_readsTerm_64 : decode cX9_readsTerm 64 = .ok (.dup, 1) := by decide +kernel
theorem dX9_readsTerm_65 : decode cX9_readsTerm 65 = .ok (.getfield 353, 3) := by decide +kernel
theorem dX9_readsTerm_68 : decode cX9_readsTerm 68 = .ok (.iconst 1, 1) := by decide +kernel
theorem dX9_readsTerm_69 : decode cX9_readsTerm 69 = .ok (.iadd, 1) := by decide +kernel
theorem dX9_readsTerm_70 : decode cX9_readsTerm 70 = .ok (.putfield 353, 3) := by decide +kernel
theorem dX9_readsTerm_73 : decode cX9_readsTerm 73 = .ok (.aload_n 0, 1) := by decide +kernel
theorem dX9_readsTerm_74 : decode cX9_readsTerm 74 = .ok (.invokevirtual 418, 3) := by decide +kernel
theorem dX9_readsTerm_77 : decode cX9_readsTerm 77 = .ok (.ifCond .ne 5, 3) := by decide +kernel
theorem dX9_readsTerm_80 : decode cX9_readsTerm 80 = .ok (.iconst 0, 1) := by decide +kernel
theorem dX9_readsTerm_81 : decode cX9_readsTerm 81 = .ok (.ireturn, 1) := by decide +kernel
theorem dX9_readsTerm_82 : decode cX9_readsTerm 82 = .ok (.iconst 1, 1) := by decide +kernel
theorem dX9_readsTerm_83 : decode cX9_readsTerm 83 = .ok (.istore_n 2, 1) := by decide +kernel
theorem dX9_readsTerm_84 : decode cX9_readsTerm 84 = .ok (.iconst 0, 1) := by decide +kernel
theorem dX9_readsTerm_85 : decode cX9_readsTerm 85 = .ok (.istore_n 3, 1) := by decide +kernel
theorem dX9_readsTerm_86 : decode cX9_readsTerm 86 = .ok (.iload_n 3, 1) := by decide +kernel
theorem dX9_readsTerm_87 : decode cX9_readsTerm 87 = .ok (.aload_n 0, 1) := by decide +kernel
theorem dX9_readsTerm_88 : decode cX9_readsTerm 88 = .ok (.getfield 153, 3) := by decide +kernel
theorem dX9_readsTerm_91 : decode cX9_readsTerm 91 = .ok (.if_icmp .ge 87, 3) := by decide +kernel
theorem dX9_readsTerm_94 : decode cX9_readsTerm 94 = .ok (.aload_n 0, 1) := by decide +kernel
theorem dX9_readsTerm_95 : decode cX9_readsTerm 95 = .ok (.getfield 137, 3) := by decide +kernel
theorem dX9_readsTerm_98 : decode cX9_readsTerm 98 = .ok (.bipush 11, 2) := by decide +kernel
theorem dX9_readsTerm_100 : decode cX9_readsTerm 100 = .ok (.aload_n 0, 1) := by decide +kernel
theorem dX9_readsTerm_101 : decode cX9_readsTerm 101 = .ok (.getfield 396, 3) := by decide +kernel
theorem dX9_readsTerm_104 : decode cX9_readsTerm 104 = .ok (.imul, 1) := by decide +kernel
theorem dX9_readsTerm_105 : decode cX9_readsTerm 105 = .ok (.iload_n 3, 1) := by decide +kernel
theorem dX9_readsTerm_106 : decode cX9_readsTerm 106 = .ok (.iadd, 1) := by decide +kernel
theorem dX9_readsTerm_107 : decode cX9_readsTerm 107 = .ok (.laload, 1) := by decide +kernel
theorem dX9_readsTerm_108 : decode cX9_readsTerm 108 = .ok (.lstore 4, 2) := by decide +kernel
theorem dX9_readsTerm_110 : decode cX9_readsTerm 110 = .ok (.iload_n 2, 1) := by decide +kernel
theorem dX9_readsTerm_111 : decode cX9_readsTerm 111 = .ok (.ifCond .eq 36, 3) := by decide +kernel
theorem dX9_readsTerm_114 : decode cX9_readsTerm 114 = .ok (.lload 4, 2) := by decide +kernel
theorem dX9_readsTerm_116 : decode cX9_readsTerm 116 = .ok (.lconst 0, 1) := by decide +kernel
theorem dX9_readsTerm_117 : decode cX9_readsTerm 117 = .ok (.lcmp, 1) := by decide +kernel
theorem dX9_readsTerm_118 : decode cX9_readsTerm 118 = .ok (.ifCond .eq 25, 3) := by decide +kernel
theorem dX9_readsTerm_121 : decode cX9_readsTerm 121 = .ok (.aload_n 0, 1) := by decide +kernel
theorem dX9_readsTerm_122 : decode cX9_readsTerm 122 = .ok (.getfield 140, 3) := by decide +kernel
theorem dX9_readsTerm_125 : decode cX9_readsTerm 125 = .ok (.iload_n 3, 1) := by decide +kernel
theorem dX9_readsTerm_126 : decode cX9_readsTerm 126 = .ok (.laload, 1) := by decide +kernel
theorem dX9_readsTerm_127 : decode cX9_readsTerm 127 = .ok (.invokestatic 421, 3) := by decide +kernel
theorem dX9_readsTerm_130 : decode cX9_readsTerm 130 = .ok (.ldc2_w 416, 3) := by decide +kernel
theorem dX9_readsTerm_133 : decode cX9_readsTerm 133 = .ok (.lload 4, 2) := by decide +kernel
theorem dX9_readsTerm_135 : decode cX9_readsTerm 135 = .ok (.invokestatic 421, 3) := by decide +kernel
theorem dX9_readsTerm_138 : decode cX9_readsTerm 138 = .ok (.ldiv, 1) := by decide +kernel
theorem dX9_readsTerm_139 : decode cX9_readsTerm 139 = .ok (.lcmp, 1) := by decide +kernel
theorem dX9_readsTerm_140 : decode cX9_readsTerm 140 = .ok (.ifCond .gt 7, 3) := by decide +kernel
theorem dX9_readsTerm_143 : decode cX9_readsTerm 143 = .ok (.iconst 1, 1) := by decide +kernel
theorem dX9_readsTerm_144 : decode cX9_readsTerm 144 = .ok (.goto 4, 3) := by decide +kernel
theorem dX9_readsTerm_147 : decode cX9_readsTerm 147 = .ok (.iconst 0, 1) := by decide +kernel
theorem dX9_readsTerm_148 : decode cX9_readsTerm 148 = .ok (.istore_n 2, 1) := by decide +kernel
theorem dX9_readsTerm_149 : decode cX9_readsTerm 149 = .ok (.aload_n 0, 1) := by decide +kernel
theorem dX9_readsTerm_150 : decode cX9_readsTerm 150 = .ok (.getfield 137, 3) := by decide +kernel
theorem dX9_readsTerm_153 : decode cX9_readsTerm 153 = .ok (.bipush 11, 2) := by decide +kernel
theorem dX9_readsTerm_155 : decode cX9_readsTerm 155 = .ok (.aload_n 0, 1) := by decide +kernel
theorem dX9_readsTerm_156 : decode cX9_readsTerm 156 = .ok (.getfield 396, 3) := by decide +kernel
theorem dX9_readsTerm_159 : decode cX9_readsTerm 159 = .ok (.imul, 1) := by decide +kernel
theorem dX9_readsTerm_160 : decode cX9_readsTerm 160 = .ok (.iload_n 3, 1) := by decide +kernel
theorem dX9_readsTerm_161 : decode cX9_readsTerm 161 = .ok (.iadd, 1) := by decide +kernel
theorem dX9_readsTerm_162 : decode cX9_readsTerm 162 = .ok (.lload 4, 2) := by decide +kernel
theorem dX9_readsTerm_164 : decode cX9_readsTerm 164 = .ok (.aload_n 0, 1) := by decide +kernel
theorem dX9_readsTerm_165 : decode cX9_readsTerm 165 = .ok (.getfield 140, 3) := by decide +kernel
theorem dX9_readsTerm_168 : decode cX9_readsTerm 168 = .ok (.iload_n 3, 1) := by decide +kernel
theorem dX9_readsTerm_169 : decode cX9_readsTerm 169 = .ok (.laload, 1) := by decide +kernel
theorem dX9_readsTerm_170 : decode cX9_readsTerm 170 = .ok (.lmul, 1) := by decide +kernel
theorem dX9_readsTerm_171 : decode cX9_readsTerm 171 = .ok (.lastore, 1) := by decide +kernel
theorem dX9_readsTerm_172 : decode cX9_readsTerm 172 = .ok (.iinc 3 1, 3) := by decide +kernel
theorem dX9_readsTerm_175 : decode cX9_readsTerm 175 = .ok (.goto (-89), 3) := by decide +kernel
theorem dX9_readsTerm_178 : decode cX9_readsTerm 178 = .ok (.iload_n 2, 1) := by decide +kernel
theorem dX9_readsTerm_179 : decode cX9_readsTerm 179 = .ok (.ifCond .ne 11, 3) := by decide +kernel
theorem dX9_readsTerm_182 : decode cX9_readsTerm 182 = .ok (.aload_n 0, 1) := by decide +kernel
theorem dX9_readsTerm_183 : decode cX9_readsTerm 183 = .ok (.bipush 6, 2) := by decide +kernel
theorem dX9_readsTerm_185 : decode cX9_readsTerm 185 = .ok (.iload_n 1, 1) := by decide +kernel
theorem dX9_readsTerm_186 : decode cX9_readsTerm 186 = .ok (.invokevirtual 377, 3) := by decide +kernel
theorem dX9_readsTerm_189 : decode cX9_readsTerm 189 = .ok (.ireturn, 1) := by decide +kernel
theorem dX9_readsTerm_190 : decode cX9_readsTerm 190 = .ok (.goto (-141), 3) := by decide +kernel
theorem dX9_readsTerm_193 : decode cX9_readsTerm 193 = .ok (.aload_n 0, 1) := by decide +kernel
theorem dX9_readsTerm_194 : decode cX9_readsTerm 194 = .ok (.dup, 1) := by decide +kernel
theorem dX9_readsTerm_195 : decode cX9_readsTerm 195 = .ok (.getfield 359, 3) := by decide +kernel
theorem dX9_readsTerm_198 : decode cX9_readsTerm 198 = .ok (.iconst 1, 1) := by decide +kernel
theorem dX9_readsTerm_199 : decode cX9_readsTerm 199 = .ok (.isub, 1) := by decide +kernel
theorem dX9_readsTerm_200 : decode cX9_readsTerm 200 = .ok (.putfield 359, 3) := by decide +kernel
theorem dX9_readsTerm_203 : decode cX9_readsTerm 203 = .ok (.iconst 1, 1) := by decide +kernel
theorem dX9_readsTerm_204 : decode cX9_readsTerm 204 = .ok (.ireturn, 1) := by decide +kernel
theorem dX9_readsSum_0 : decode cX9_readsSum 0 = .ok (.aload_n 0, 1) := by decide +kernel
theorem dX9_readsSum_1 : decode cX9_readsSum 1 = .ok (.invokevirtual 402, 3) := by decide +kernel
theorem dX9_readsSum_4 : decode cX9_readsSum 4 = .ok (.aload_n 0, 1) := by decide +kernel
theorem dX9_readsSum_5 : decode cX9_readsSum 5 = .ok (.invokevirtual 425, 3) := by decide +kernel
theorem dX9_readsSum_8 : decode cX9_readsSum 8 = .ok (.ifCond .ne 5, 3) := by decide +kernel
theorem dX9_readsSum_11 : decode cX9_readsSum 11 = .ok (.iconst 0, 1) := by decide +kernel
theorem dX9_readsSum_12 : decode cX9_readsSum 12 = .ok (.ireturn, 1) := by decide +kernel
theorem dX9_readsSum_13 : decode cX9_readsSum 13 = .ok (.iconst 0, 1) := by decide +kernel
theorem dX9_readsSum_14 : decode cX9_readsSum 14 = .ok (.istore_n 1, 1) := by decide +kernel
theorem dX9_readsSum_15 : decode cX9_readsSum 15 = .ok (.iload_n 1, 1) := by decide +kernel
theorem dX9_readsSum_16 : decode cX9_readsSum 16 = .ok (.aload_n 0, 1) := by decide +kernel
theorem dX9_readsSum_17 : decode cX9_readsSum 17 = .ok (.getfield 153, 3) := by decide +kernel
theorem dX9_readsSum_20 : decode cX9_readsSum 20 = .ok (.if_icmp .ge 37, 3) := by decide +kernel
theorem dX9_readsSum_23 : decode cX9_readsSum 23 = .ok (.aload_n 0, 1) := by decide +kernel
theorem dX9_readsSum_24 : decode cX9_readsSum 24 = .ok (.getfield 134, 3) := by decide +kernel
theorem dX9_readsSum_27 : decode cX9_readsSum 27 = .ok (.bipush 11, 2) := by decide +kernel
theorem dX9_readsSum_29 : decode cX9_readsSum 29 = .ok (.aload_n 0, 1) := by decide +kernel
theorem dX9_readsSum_30 : decode cX9_readsSum 30 = .ok (.getfield 396, 3) := by decide +kernel
theorem dX9_readsSum_33 : decode cX9_readsSum 33 = .ok (.imul, 1) := by decide +kernel
theorem dX9_readsSum_34 : decode cX9_readsSum 34 = .ok (.iload_n 1, 1) := by decide +kernel
theorem dX9_readsSum_35 : decode cX9_readsSum 35 = .ok (.iadd, 1) := by decide +kernel
theorem dX9_readsSum_36 : decode cX9_readsSum 36 = .ok (.aload_n 0, 1) := by decide +kernel
theorem dX9_readsSum_37 : decode cX9_readsSum 37 = .ok (.getfield 137, 3) := by decide +kernel
theorem dX9_readsSum_40 : decode cX9_readsSum 40 = .ok (.bipush 11, 2) := by decide +kernel
theorem dX9_readsSum_42 : decode cX9_readsSum 42 = .ok (.aload_n 0, 1) := by decide +kernel
theorem dX9_readsSum_43 : decode cX9_readsSum 43 = .ok (.getfield 396, 3) := by decide +kernel
theorem dX9_readsSum_46 : decode cX9_readsSum 46 = .ok (.imul, 1) := by decide +kernel
theorem dX9_readsSum_47 : decode cX9_readsSum 47 = .ok (.iload_n 1, 1) := by decide +kernel
theorem dX9_readsSum_48 : decode cX9_readsSum 48 = .ok (.iadd, 1) := by decide +kernel
theorem dX9_readsSum_49 : decode cX9_readsSum 49 = .ok (.laload, 1) := by decide +kernel
theorem dX9_readsSum_50 : decode cX9_readsSum 50 = .ok (.lastore, 1) := by decide +kernel
theorem dX9_readsSum_51 : decode cX9_readsSum 51 = .ok (.iinc 1 1, 3) := by decide +kernel
theorem dX9_readsSum_54 : decode cX9_readsSum 54 = .ok (.goto (-39), 3) := by decide +kernel
theorem dX9_readsSum_57 : decode cX9_readsSum 57 = .ok (.aload_n 0, 1) := by decide +kernel
theorem dX9_readsSum_58 : decode cX9_readsSum 58 = .ok (.invokevirtual 364, 3) := by decide +kernel
theorem dX9_readsSum_61 : decode cX9_readsSum 61 = .ok (.bipush 43, 2) := by decide +kernel
theorem dX9_readsSum_63 : decode cX9_readsSum 63 = .ok (.if_icmp .eq 12, 3) := by decide +kernel
theorem dX9_readsSum_66 : decode cX9_readsSum 66 = .ok (.aload_n 0, 1) := by decide +kernel
theorem dX9_readsSum_67 : decode cX9_readsSum 67 = .ok (.invokevirtual 364, 3) := by decide +kernel
theorem dX9_readsSum_70 : decode cX9_readsSum 70 = .ok (.bipush 45, 2) := by decide +kernel
theorem dX9_readsSum_72 : decode cX9_readsSum 72 = .ok (.if_icmp .ne 119, 3) := by decide +kernel
theorem dX9_readsSum_75 : decode cX9_readsSum 75 = .ok (.aload_n 0, 1) := by decide +kernel
theorem dX9_readsSum_76 : decode cX9_readsSum 76 = .ok (.getfield 353, 3) := by decide +kernel
theorem dX9_readsSum_79 : decode cX9_readsSum 79 = .ok (.istore_n 1, 1) := by decide +kernel
theorem dX9_readsSum_80 : decode cX9_readsSum 80 = .ok (.aload_n 0, 1) := by decide +kernel
theorem dX9_readsSum_81 : decode cX9_readsSum 81 = .ok (.getfield 121, 3) := by decide +kernel
theorem dX9_readsSum_84 : decode cX9_readsSum 84 = .ok (.aload_n 0, 1) := by decide +kernel
theorem dX9_readsSum_85 : decode cX9_readsSum 85 = .ok (.getfield 353, 3) := by decide +kernel
theorem dX9_readsSum_88 : decode cX9_readsSum 88 = .ok (.iaload, 1) := by decide +kernel
theorem dX9_readsSum_89 : decode cX9_readsSum 89 = .ok (.bipush 43, 2) := by decide +kernel
theorem dX9_readsSum_91 : decode cX9_readsSum 91 = .ok (.if_icmp .ne 7, 3) := by decide +kernel
theorem dX9_readsSum_94 : decode cX9_readsSum 94 = .ok (.iconst 1, 1) := by decide +kernel
theorem dX9_readsSum_95 : decode cX9_readsSum 95 = .ok (.goto 4, 3) := by decide +kernel
theorem dX9_readsSum_98 : decode cX9_readsSum 98 = .ok (.iconst (-1), 1) := by decide +kernel
theorem dX9_readsSum_99 : decode cX9_readsSum 99 = .ok (.istore_n 2, 1) := by decide +kernel
theorem dX9_readsSum_100 : decode cX9_readsSum 100 = .ok (.aload_n 0, 1) := by decide +kernel
theorem dX9_readsSum_101 : decode cX9_readsSum 101 = .ok (.dup, 1) := by decide +kernel
theorem dX9_readsSum_102 : decode cX9_readsSum 102 = .ok (.getfield 353, 3) := by decide +kernel
theorem dX9_readsSum_105 : decode cX9_readsSum 105 = .ok (.iconst 1, 1) := by decide +kernel
theorem dX9_readsSum_106 : decode cX9_readsSum 106 = .ok (.iadd, 1) := by decide +kernel
theorem dX9_readsSum_107 : decode cX9_readsSum 107 = .ok (.putfield 353, 3) := by decide +kernel
theorem dX9_readsSum_110 : decode cX9_readsSum 110 = .ok (.aload_n 0, 1) := by decide +kernel
theorem dX9_readsSum_111 : decode cX9_readsSum 111 = .ok (.invokevirtual 425, 3) := by decide +kernel
theorem dX9_readsSum_114 : decode cX9_readsSum 114 = .ok (.ifCond .ne 5, 3) := by decide +kernel
theorem dX9_readsSum_117 : decode cX9_readsSum 117 = .ok (.iconst 0, 1) := by decide +kernel
theorem dX9_readsSum_118 : decode cX9_readsSum 118 = .ok (.ireturn, 1) := by decide +kernel
theorem dX9_readsSum_119 : decode cX9_readsSum 119 = .ok (.iconst 0, 1) := by decide +kernel
theorem dX9_readsSum_120 : decode cX9_readsSum 120 = .ok (.istore_n 3, 1) := by decide +kernel
theorem dX9_readsSum_121 : decode cX9_readsSum 121 = .ok (.iload_n 3, 1) := by decide +kernel
theorem dX9_readsSum_122 : decode cX9_readsSum 122 = .ok (.aload_n 0, 1) := by decide +kernel
theorem dX9_readsSum_123 : decode cX9_readsSum 123 = .ok (.getfield 153, 3) := by decide +kernel
theorem dX9_readsSum_126 : decode cX9_readsSum 126 = .ok (.if_icmp .ge 43, 3) := by decide +kernel
theorem dX9_readsSum_129 : decode cX9_readsSum 129 = .ok (.aload_n 0, 1) := by decide +kernel
theorem dX9_readsSum_130 : decode cX9_readsSum 130 = .ok (.getfield 134, 3) := by decide +kernel
theorem dX9_readsSum_133 : decode cX9_readsSum 133 = .ok (.bipush 11, 2) := by decide +kernel
theorem dX9_readsSum_135 : decode cX9_readsSum 135 = .ok (.aload_n 0, 1) := by decide +kernel
theorem dX9_readsSum_136 : decode cX9_readsSum 136 = .ok (.getfield 396, 3) := by decide +kernel
theorem dX9_readsSum_139 : decode cX9_readsSum 139 = .ok (.imul, 1) := by decide +kernel
theorem dX9_readsSum_140 : decode cX9_readsSum 140 = .ok (.iload_n 3, 1) := by decide +kernel
theorem dX9_readsSum_141 : decode cX9_readsSum 141 = .ok (.iadd, 1) := by decide +kernel
theorem dX9_readsSum_142 : decode cX9_readsSum 142 = .ok (.dup2, 1) := by decide +kernel
theorem dX9_readsSum_143 : decode cX9_readsSum 143 = .ok (.laload, 1) := by decide +kernel
theorem dX9_readsSum_144 : decode cX9_readsSum 144 = .ok (.iload_n 2, 1) := by decide +kernel
theorem dX9_readsSum_145 : decode cX9_readsSum 145 = .ok (.i2l, 1) := by decide +kernel
theorem dX9_readsSum_146 : decode cX9_readsSum 146 = .ok (.aload_n 0, 1) := by decide +kernel
theorem dX9_readsSum_147 : decode cX9_readsSum 147 = .ok (.getfield 137, 3) := by decide +kernel
theorem dX9_readsSum_150 : decode cX9_readsSum 150 = .ok (.bipush 11, 2) := by decide +kernel
theorem dX9_readsSum_152 : decode cX9_readsSum 152 = .ok (.aload_n 0, 1) := by decide +kernel
theorem dX9_readsSum_153 : decode cX9_readsSum 153 = .ok (.getfield 396, 3) := by decide +kernel
theorem dX9_readsSum_156 : decode cX9_readsSum 156 = .ok (.imul, 1) := by decide +kernel
theorem dX9_readsSum_157 : decode cX9_readsSum 157 = .ok (.iload_n 3, 1) := by decide +kernel
theorem dX9_readsSum_158 : decode cX9_readsSum 158 = .ok (.iadd, 1) := by decide +kernel
theorem dX9_readsSum_159 : decode cX9_readsSum 159 = .ok (.laload, 1) := by decide +kernel
theorem dX9_readsSum_160 : decode cX9_readsSum 160 = .ok (.lmul, 1) := by decide +kernel
theorem dX9_readsSum_161 : decode cX9_readsSum 161 = .ok (.ladd, 1) := by decide +kernel
theorem dX9_readsSum_162 : decode cX9_readsSum 162 = .ok (.lastore, 1) := by decide +kernel
theorem dX9_readsSum_163 : decode cX9_readsSum 163 = .ok (.iinc 3 1, 3) := by decide +kernel
theorem dX9_readsSum_166 : decode cX9_readsSum 166 = .ok (.goto (-45), 3) := by decide +kernel
theorem dX9_readsSum_169 : decode cX9_readsSum 169 = .ok (.aload_n 0, 1) := by decide +kernel
theorem dX9_readsSum_170 : decode cX9_readsSum 170 = .ok (.aload_n 0, 1) := by decide +kernel
theorem dX9_readsSum_171 : decode cX9_readsSum 171 = .ok (.getfield 134, 3) := by decide +kernel
theorem dX9_readsSum_174 : decode cX9_readsSum 174 = .ok (.invokevirtual 428, 3) := by decide +kernel
theorem dX9_readsSum_177 : decode cX9_readsSum 177 = .ok (.ifCond .ne 11, 3) := by decide +kernel
theorem dX9_readsSum_180 : decode cX9_readsSum 180 = .ok (.aload_n 0, 1) := by decide +kernel
theorem dX9_readsSum_181 : decode cX9_readsSum 181 = .ok (.bipush 6, 2) := by decide +kernel
theorem dX9_readsSum_183 : decode cX9_readsSum 183 = .ok (.iload_n 1, 1) := by decide +kernel
theorem dX9_readsSum_184 : decode cX9_readsSum 184 = .ok (.invokevirtual 377, 3) := by decide +kernel
theorem dX9_readsSum_187 : decode cX9_readsSum 187 = .ok (.ireturn, 1) := by decide +kernel
theorem dX9_readsSum_188 : decode cX9_readsSum 188 = .ok (.goto (-131), 3) := by decide +kernel
theorem dX9_readsSum_191 : decode cX9_readsSum 191 = .ok (.aload_n 0, 1) := by decide +kernel
theorem dX9_readsSum_192 : decode cX9_readsSum 192 = .ok (.dup, 1) := by decide +kernel
theorem dX9_readsSum_193 : decode cX9_readsSum 193 = .ok (.getfield 359, 3) := by decide +kernel
theorem dX9_readsSum_196 : decode cX9_readsSum 196 = .ok (.iconst 1, 1) := by decide +kernel
theorem dX9_readsSum_197 : decode cX9_readsSum 197 = .ok (.isub, 1) := by decide +kernel
theorem dX9_readsSum_198 : decode cX9_readsSum 198 = .ok (.putfield 359, 3) := by decide +kernel
theorem dX9_readsSum_201 : decode cX9_readsSum 201 = .ok (.iconst 1, 1) := by decide +kernel
theorem dX9_readsSum_202 : decode cX9_readsSum 202 = .ok (.ireturn, 1) := by decide +kernel
theorem dX9_text_0 : decode cX9_text 0 = .ok (.aload_n 0, 1) := by decide +kernel
theorem dX9_text_1 : decode cX9_text 1 = .ok (.iconst 0, 1) := by decide +kernel
theorem dX9_text_2 : decode cX9_text 2 = .ok (.putfield 356, 3) := by decide +kernel
theorem dX9_text_5 : decode cX9_text 5 = .ok (.aload_n 0, 1) := by decide +kernel
theorem dX9_text_6 : decode cX9_text 6 = .ok (.iconst (-1), 1) := by decide +kernel
theorem dX9_text_7 : decode cX9_text 7 = .ok (.putfield 124, 3) := by decide +kernel
theorem dX9_text_10 : decode cX9_text 10 = .ok (.aload_n 0, 1) := by decide +kernel
theorem dX9_text_11 : decode cX9_text 11 = .ok (.iconst 0, 1) := by decide +kernel
theorem dX9_text_12 : decode cX9_text 12 = .ok (.putfield 361, 3) := by decide +kernel
theorem dX9_text_15 : decode cX9_text 15 = .ok (.aload_n 0, 1) := by decide +kernel
theorem dX9_text_16 : decode cX9_text 16 = .ok (.iconst 0, 1) := by decide +kernel
theorem dX9_text_17 : decode cX9_text 17 = .ok (.putfield 359, 3) := by decide +kernel
theorem dX9_text_20 : decode cX9_text 20 = .ok (.aload_n 0, 1) := by decide +kernel
theorem dX9_text_21 : decode cX9_text 21 = .ok (.iconst 0, 1) := by decide +kernel
theorem dX9_text_22 : decode cX9_text 22 = .ok (.putfield 396, 3) := by decide +kernel
theorem dX9_text_25 : decode cX9_text 25 = .ok (.aload_n 0, 1) := by decide +kernel
theorem dX9_text_26 : decode cX9_text 26 = .ok (.iconst 0, 1) := by decide +kernel
theorem dX9_text_27 : decode cX9_text 27 = .ok (.putfield 353, 3) := by decide +kernel
theorem dX9_text_30 : decode cX9_text 30 = .ok (.iload_n 1, 1) := by decide +kernel
theorem dX9_text_31 : decode cX9_text 31 = .ok (.invokestatic 319, 3) := by decide +kernel
theorem dX9_text_34 : decode cX9_text 34 = .ok (.ifCond .eq 14, 3) := by decide +kernel
theorem dX9_text_37 : decode cX9_text 37 = .ok (.aload_n 0, 1) := by decide +kernel
theorem dX9_text_38 : decode cX9_text 38 = .ok (.invokevirtual 399, 3) := by decide +kernel
theorem dX9_text_41 : decode cX9_text 41 = .ok (.ifCond .eq 7, 3) := by decide +kernel
theorem dX9_text_44 : decode cX9_text 44 = .ok (.iconst 1, 1) := by decide +kernel
theorem dX9_text_45 : decode cX9_text 45 = .ok (.goto 4, 3) := by decide +kernel
theorem dX9_text_48 : decode cX9_text 48 = .ok (.iconst 0, 1) := by decide +kernel
theorem dX9_text_49 : decode cX9_text 49 = .ok (.istore_n 2, 1) := by decide +kernel
theorem dX9_text_50 : decode cX9_text 50 = .ok (.iload_n 2, 1) := by decide +kernel
theorem dX9_text_51 : decode cX9_text 51 = .ok (.ifCond .eq 21, 3) := by decide +kernel
theorem dX9_text_54 : decode cX9_text 54 = .ok (.aload_n 0, 1) := by decide +kernel
theorem dX9_text_55 : decode cX9_text 55 = .ok (.invokevirtual 364, 3) := by decide +kernel
theorem dX9_text_58 : decode cX9_text 58 = .ok (.iconst (-1), 1) := by decide +kernel
theorem dX9_text_59 : decode cX9_text 59 = .ok (.if_icmp .eq 13, 3) := by decide +kernel
theorem dX9_text_62 : decode cX9_text 62 = .ok (.aload_n 0, 1) := by decide +kernel
theorem dX9_text_63 : decode cX9_text 63 = .ok (.iconst 1, 1) := by decide +kernel
theorem dX9_text_64 : decode cX9_text 64 = .ok (.aload_n 0, 1) := by decide +kernel
theorem dX9_text_65 : decode cX9_text 65 = .ok (.getfield 353, 3) := by decide +kernel
theorem dX9_text_68 : decode cX9_text 68 = .ok (.invokevirtual 377, 3) := by decide +kernel
theorem dX9_text_71 : decode cX9_text 71 = .ok (.istore_n 2, 1) := by decide +kernel
theorem dX9_text_72 : decode cX9_text 72 = .ok (.aload_n 0, 1) := by decide +kernel
theorem dX9_text_73 : decode cX9_text 73 = .ok (.iconst 0, 1) := by decide +kernel
theorem dX9_text_74 : decode cX9_text 74 = .ok (.putfield 347, 3) := by decide +kernel
theorem dX9_text_77 : decode cX9_text 77 = .ok (.iload_n 1, 1) := by decide +kernel
theorem dX9_text_78 : decode cX9_text 78 = .ok (.invokestatic 319, 3) := by decide +kernel
theorem dX9_text_81 : decode cX9_text 81 = .ok (.ifCond .ne 6, 3) := by decide +kernel
theorem dX9_text_84 : decode cX9_text 84 = .ok (.bipush (-2), 2) := by decide +kernel
theorem dX9_text_86 : decode cX9_text 86 = .ok (.ireturn, 1) := by decide +kernel
theorem dX9_text_87 : decode cX9_text 87 = .ok (.iload_n 2, 1) := by decide +kernel
theorem dX9_text_88 : decode cX9_text 88 = .ok (.ifCond .ne 5, 3) := by decide +kernel
theorem dX9_text_91 : decode cX9_text 91 = .ok (.iconst (-1), 1) := by decide +kernel
theorem dX9_text_92 : decode cX9_text 92 = .ok (.ireturn, 1) := by decide +kernel
theorem dX9_text_93 : decode cX9_text 93 = .ok (.iconst 0, 1) := by decide +kernel
theorem dX9_text_94 : decode cX9_text 94 = .ok (.istore_n 3, 1) := by decide +kernel
theorem dX9_text_95 : decode cX9_text 95 = .ok (.iload_n 3, 1) := by decide +kernel
theorem dX9_text_96 : decode cX9_text 96 = .ok (.aload_n 0, 1) := by decide +kernel
theorem dX9_text_97 : decode cX9_text 97 = .ok (.getfield 153, 3) := by decide +kernel
theorem dX9_text_100 : decode cX9_text 100 = .ok (.if_icmp .ge 26, 3) := by decide +kernel
theorem dX9_text_103 : decode cX9_text 103 = .ok (.aload_n 0, 1) := by decide +kernel
theorem dX9_text_104 : decode cX9_text 104 = .ok (.getfield 115, 3) := by decide +kernel
theorem dX9_text_107 : decode cX9_text 107 = .ok (.bipush 11, 2) := by decide +kernel
theorem dX9_text_109 : decode cX9_text 109 = .ok (.iload_n 1, 1) := by decide +kernel
theorem dX9_text_110 : decode cX9_text 110 = .ok (.imul, 1) := by decide +kernel
theorem dX9_text_111 : decode cX9_text 111 = .ok (.iload_n 3, 1) := by decide +kernel
theorem dX9_text_112 : decode cX9_text 112 = .ok (.iadd, 1) := by decide +kernel
theorem dX9_text_113 : decode cX9_text 113 = .ok (.aload_n 0, 1) := by decide +kernel
theorem dX9_text_114 : decode cX9_text 114 = .ok (.getfield 134, 3) := by decide +kernel
theorem dX9_text_117 : decode cX9_text 117 = .ok (.iload_n 3, 1) := by decide +kernel
theorem dX9_text_118 : decode cX9_text 118 = .ok (.laload, 1) := by decide +kernel
theorem dX9_text_119 : decode cX9_text 119 = .ok (.lastore, 1) := by decide +kernel
theorem dX9_text_120 : decode cX9_text 120 = .ok (.iinc 3 1, 3) := by decide +kernel
theorem dX9_text_123 : decode cX9_text 123 = .ok (.goto (-28), 3) := by decide +kernel
theorem dX9_text_126 : decode cX9_text 126 = .ok (.iconst 0, 1) := by decide +kernel
theorem dX9_text_127 : decode cX9_text 127 = .ok (.ireturn, 1) := by decide +kernel
