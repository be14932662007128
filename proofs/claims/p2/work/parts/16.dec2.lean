/-! instructions, by program -/
theorem dX9_charOf_128 : decode cX9_charOf 128 = .ok (.iinc 6 1, 3) := by decide +kernel
theorem dX9_charOf_131 : decode cX9_charOf 131 = .ok (.goto (-104), 3) := by decide +kernel
theorem dX9_charOf_134 : decode cX9_charOf 134 = .ok (.iload 5, 2) := by decide +kernel
theorem dX9_charOf_136 : decode cX9_charOf 136 = .ok (.ireturn, 1) := by decide +kernel
theorem dX9_cores_0 : decode cX9_cores 0 = .ok (.aload_n 0, 1) := by decide +kernel
theorem dX9_cores_1 : decode cX9_cores 1 = .ok (.iconst 0, 1) := by decide +kernel
theorem dX9_cores_2 : decode cX9_cores 2 = .ok (.putfield 199, 3) := by decide +kernel
theorem dX9_cores_5 : decode cX9_cores 5 = .ok (.iconst 0, 1) := by decide +kernel
theorem dX9_cores_6 : decode cX9_cores 6 = .ok (.istore_n 1, 1) := by decide +kernel
theorem dX9_cores_7 : decode cX9_cores 7 = .ok (.iload_n 1, 1) := by decide +kernel
theorem dX9_cores_8 : decode cX9_cores 8 = .ok (.aload_n 0, 1) := by decide +kernel
theorem dX9_cores_9 : decode cX9_cores 9 = .ok (.getfield 153, 3) := by decide +kernel
theorem dX9_cores_12 : decode cX9_cores 12 = .ok (.if_icmp .ge 206, 3) := by decide +kernel
theorem dX9_cores_15 : decode cX9_cores 15 = .ok (.aload_n 0, 1) := by decide +kernel
theorem dX9_cores_16 : decode cX9_cores 16 = .ok (.iload_n 1, 1) := by decide +kernel
theorem dX9_cores_17 : decode cX9_cores 17 = .ok (.invokevirtual 202, 3) := by decide +kernel
theorem dX9_cores_20 : decode cX9_cores 20 = .ok (.istore_n 2, 1) := by decide +kernel
theorem dX9_cores_21 : decode cX9_cores 21 = .ok (.aload_n 0, 1) := by decide +kernel
theorem dX9_cores_22 : decode cX9_cores 22 = .ok (.getfield 41, 3) := by decide +kernel
theorem dX9_cores_25 : decode cX9_cores 25 = .ok (.iload_n 1, 1) := by decide +kernel
theorem dX9_cores_26 : decode cX9_cores 26 = .ok (.iconst 0, 1) := by decide +kernel
theorem dX9_cores_27 : decode cX9_cores 27 = .ok (.iastore, 1) := by decide +kernel
theorem dX9_cores_28 : decode cX9_cores 28 = .ok (.iconst 1, 1) := by decide +kernel
theorem dX9_cores_29 : decode cX9_cores 29 = .ok (.istore_n 3, 1) := by decide +kernel
theorem dX9_cores_30 : decode cX9_cores 30 = .ok (.iload_n 3, 1) := by decide +kernel
theorem dX9_cores_31 : decode cX9_cores 31 = .ok (.ifCond .eq 85, 3) := by decide +kernel
theorem dX9_cores_34 : decode cX9_cores 34 = .ok (.iconst 0, 1) := by decide +kernel
theorem dX9_cores_35 : decode cX9_cores 35 = .ok (.istore_n 3, 1) := by decide +kernel
theorem dX9_cores_36 : decode cX9_cores 36 = .ok (.aload_n 0, 1) := by decide +kernel
theorem dX9_cores_37 : decode cX9_cores 37 = .ok (.getfield 184, 3) := by decide +kernel
theorem dX9_cores_40 : decode cX9_cores 40 = .ok (.istore 4, 2) := by decide +kernel
theorem dX9_cores_42 : decode cX9_cores 42 = .ok (.iload 4, 2) := by decide +kernel
theorem dX9_cores_44 : decode cX9_cores 44 = .ok (.bipush 12, 2) := by decide +kernel
theorem dX9_cores_46 : decode cX9_cores 46 = .ok (.if_icmp .ge 67, 3) := by decide +kernel
theorem dX9_cores_49 : decode cX9_cores 49 = .ok (.iload_n 2, 1) := by decide +kernel
theorem dX9_cores_50 : decode cX9_cores 50 = .ok (.iload 4, 2) := by decide +kernel
theorem dX9_cores_52 : decode cX9_cores 52 = .ok (.ishr, 1) := by decide +kernel
theorem dX9_cores_53 : decode cX9_cores 53 = .ok (.iconst 1, 1) := by decide +kernel
theorem dX9_cores_54 : decode cX9_cores 54 = .ok (.iand, 1) := by decide +kernel
theorem dX9_cores_55 : decode cX9_cores 55 = .ok (.ifCond .eq 52, 3) := by decide +kernel
theorem dX9_cores_58 : decode cX9_cores 58 = .ok (.iload_n 2, 1) := by decide +kernel
theorem dX9_cores_59 : decode cX9_cores 59 = .ok (.iload 4, 2) := by decide +kernel
theorem dX9_cores_61 : decode cX9_cores 61 = .ok (.aload_n 0, 1) := by decide +kernel
theorem dX9_cores_62 : decode cX9_cores 62 = .ok (.getfield 184, 3) := by decide +kernel
theorem dX9_cores_65 : decode cX9_cores 65 = .ok (.isub, 1) := by decide +kernel
theorem dX9_cores_66 : decode cX9_cores 66 = .ok (.ishr, 1) := by decide +kernel
theorem dX9_cores_67 : decode cX9_cores 67 = .ok (.iconst 1, 1) := by decide +kernel
theorem dX9_cores_68 : decode cX9_cores 68 = .ok (.iand, 1) := by decide +kernel
theorem dX9_cores_69 : decode cX9_cores 69 = .ok (.iconst 1, 1) := by decide +kernel
theorem dX9_cores_70 : decode cX9_cores 70 = .ok (.if_icmp .ne 6, 3) := by decide +kernel
theorem dX9_cores_73 : decode cX9_cores 73 = .ok (.goto 34, 3) := by decide +kernel
theorem dX9_cores_76 : decode cX9_cores 76 = .ok (.iload_n 2, 1) := by decide +kernel
theorem dX9_cores_77 : decode cX9_cores 77 = .ok (.iconst 1, 1) := by decide +kernel
theorem dX9_cores_78 : decode cX9_cores 78 = .ok (.iload 4, 2) := by decide +kernel
theorem dX9_cores_80 : decode cX9_cores 80 = .ok (.ishl, 1) := by decide +kernel
theorem dX9_cores_81 : decode cX9_cores 81 = .ok (.iconst (-1), 1) := by decide +kernel
theorem dX9_cores_82 : decode cX9_cores 82 = .ok (.ixor, 1) := by decide +kernel
theorem dX9_cores_83 : decode cX9_cores 83 = .ok (.iand, 1) := by decide +kernel
theorem dX9_cores_84 : decode cX9_cores 84 = .ok (.iconst 1, 1) := by decide +kernel
theorem dX9_cores_85 : decode cX9_cores 85 = .ok (.iload 4, 2) := by decide +kernel
theorem dX9_cores_87 : decode cX9_cores 87 = .ok (.aload_n 0, 1) := by decide +kernel
theorem dX9_cores_88 : decode cX9_cores 88 = .ok (.getfield 184, 3) := by decide +kernel
theorem dX9_cores_91 : decode cX9_cores 91 = .ok (.isub, 1) := by decide +kernel
theorem dX9_cores_92 : decode cX9_cores 92 = .ok (.ishl, 1) := by decide +kernel
theorem dX9_cores_93 : decode cX9_cores 93 = .ok (.ior, 1) := by decide +kernel
theorem dX9_cores_94 : decode cX9_cores 94 = .ok (.istore_n 2, 1) := by decide +kernel
theorem dX9_cores_95 : decode cX9_cores 95 = .ok (.aload_n 0, 1) := by decide +kernel
theorem dX9_cores_96 : decode cX9_cores 96 = .ok (.getfield 41, 3) := by decide +kernel
theorem dX9_cores_99 : decode cX9_cores 99 = .ok (.iload_n 1, 1) := by decide +kernel
theorem dX9_cores_100 : decode cX9_cores 100 = .ok (.dup2, 1) := by decide +kernel
theorem dX9_cores_101 : decode cX9_cores 101 = .ok (.iaload, 1) := by decide +kernel
theorem dX9_cores_102 : decode cX9_cores 102 = .ok (.iconst 1, 1) := by decide +kernel
theorem dX9_cores_103 : decode cX9_cores 103 = .ok (.iadd, 1) := by decide +kernel
theorem dX9_cores_104 : decode cX9_cores 104 = .ok (.iastore, 1) := by decide +kernel
theorem dX9_cores_105 : decode cX9_cores 105 = .ok (.iconst 1, 1) := by decide +kernel
theorem dX9_cores_106 : decode cX9_cores 106 = .ok (.istore_n 3, 1) := by decide +kernel
theorem dX9_cores_107 : decode cX9_cores 107 = .ok (.iinc 4 1, 3) := by decide +kernel
theorem dX9_cores_110 : decode cX9_cores 110 = .ok (.goto (-68), 3) := by decide +kernel
theorem dX9_cores_113 : decode cX9_cores 113 = .ok (.goto (-83), 3) := by decide +kernel
theorem dX9_cores_116 : decode cX9_cores 116 = .ok (.aload_n 0, 1) := by decide +kernel
theorem dX9_cores_117 : decode cX9_cores 117 = .ok (.getfield 44, 3) := by decide +kernel
theorem dX9_cores_120 : decode cX9_cores 120 = .ok (.iload_n 1, 1) := by decide +kernel
theorem dX9_cores_121 : decode cX9_cores 121 = .ok (.iload_n 2, 1) := by decide +kernel
theorem dX9_cores_122 : decode cX9_cores 122 = .ok (.iastore, 1) := by decide +kernel
theorem dX9_cores_123 : decode cX9_cores 123 = .ok (.aload_n 0, 1) := by decide +kernel
theorem dX9_cores_124 : decode cX9_cores 124 = .ok (.getfield 47, 3) := by decide +kernel
theorem dX9_cores_127 : decode cX9_cores 127 = .ok (.iload_n 1, 1) := by decide +kernel
theorem dX9_cores_128 : decode cX9_cores 128 = .ok (.iconst (-1), 1) := by decide +kernel
theorem dX9_cores_129 : decode cX9_cores 129 = .ok (.iastore, 1) := by decide +kernel
theorem dX9_cores_130 : decode cX9_cores 130 = .ok (.iconst 0, 1) := by decide +kernel
theorem dX9_cores_131 : decode cX9_cores 131 = .ok (.istore 4, 2) := by decide +kernel
theorem dX9_cores_133 : decode cX9_cores 133 = .ok (.iload 4, 2) := by decide +kernel
theorem dX9_cores_135 : decode cX9_cores 135 = .ok (.iload_n 1, 1) := by decide +kernel
theorem dX9_cores_136 : decode cX9_cores 136 = .ok (.if_icmp .ge 33, 3) := by decide +kernel
theorem dX9_cores_139 : decode cX9_cores 139 = .ok (.aload_n 0, 1) := by decide +kernel
theorem dX9_cores_140 : decode cX9_cores 140 = .ok (.getfield 44, 3) := by decide +kernel
theorem dX9_cores_143 : decode cX9_cores 143 = .ok (.iload 4, 2) := by decide +kernel
theorem dX9_cores_145 : decode cX9_cores 145 = .ok (.iaload, 1) := by decide +kernel
theorem dX9_cores_146 : decode cX9_cores 146 = .ok (.iload_n 2, 1) := by decide +kernel
theorem dX9_cores_147 : decode cX9_cores 147 = .ok (.if_icmp .ne 16, 3) := by decide +kernel
theorem dX9_cores_150 : decode cX9_cores 150 = .ok (.aload_n 0, 1) := by decide +kernel
theorem dX9_cores_151 : decode cX9_cores 151 = .ok (.getfield 47, 3) := by decide +kernel
theorem dX9_cores_154 : decode cX9_cores 154 = .ok (.iload_n 1, 1) := by decide +kernel
theorem dX9_cores_155 : decode cX9_cores 155 = .ok (.aload_n 0, 1) := by decide +kernel
theorem dX9_cores_156 : decode cX9_cores 156 = .ok (.getfield 47, 3) := by decide +kernel
theorem dX9_cores_159 : decode cX9_cores 159 = .ok (.iload 4, 2) := by decide +kernel
theorem dX9_cores_161 : decode cX9_cores 161 = .ok (.iaload, 1) := by decide +kernel
theorem dX9_cores_162 : decode cX9_cores 162 = .ok (.iastore, 1) := by decide +kernel
theorem dX9_cores_163 : decode cX9_cores 163 = .ok (.iinc 4 1, 3) := by decide +kernel
theorem dX9_cores_166 : decode cX9_cores 166 = .ok (.goto (-33), 3) := by decide +kernel
theorem dX9_cores_169 : decode cX9_cores 169 = .ok (.aload_n 0, 1) := by decide +kernel
theorem dX9_cores_170 : decode cX9_cores 170 = .ok (.getfield 47, 3) := by decide +kernel
theorem dX9_cores_173 : decode cX9_cores 173 = .ok (.iload_n 1, 1) := by decide +kernel
theorem dX9_cores_174 : decode cX9_cores 174 = .ok (.iaload, 1) := by decide +kernel
theorem dX9_cores_175 : decode cX9_cores 175 = .ok (.iconst (-1), 1) := by decide +kernel
theorem dX9_cores_176 : decode cX9_cores 176 = .ok (.if_icmp .eq 6, 3) := by decide +kernel
theorem dX9_cores_179 : decode cX9_cores 179 = .ok (.goto 33, 3) := by decide +kernel
theorem dX9_cores_182 : decode cX9_cores 182 = .ok (.aload_n 0, 1) := by decide +kernel
theorem dX9_cores_183 : decode cX9_cores 183 = .ok (.getfield 47, 3) := by decide +kernel
theorem dX9_cores_186 : decode cX9_cores 186 = .ok (.iload_n 1, 1) := by decide +kernel
theorem dX9_cores_187 : decode cX9_cores 187 = .ok (.aload_n 0, 1) := by decide +kernel
theorem dX9_cores_188 : decode cX9_cores 188 = .ok (.getfield 199, 3) := by decide +kernel
theorem dX9_cores_191 : decode cX9_cores 191 = .ok (.iastore, 1) := by decide +kernel
theorem dX9_cores_192 : decode cX9_cores 192 = .ok (.aload_n 0, 1) := by decide +kernel
theorem dX9_cores_193 : decode cX9_cores 193 = .ok (.getfield 50, 3) := by decide +kernel
theorem dX9_cores_196 : decode cX9_cores 196 = .ok (.aload_n 0, 1) := by decide +kernel
theorem dX9_cores_197 : decode cX9_cores 197 = .ok (.getfield 199, 3) := by decide +kernel
theorem dX9_cores_200 : decode cX9_cores 200 = .ok (.iload_n 1, 1) := by decide +kernel
theorem dX9_cores_201 : decode cX9_cores 201 = .ok (.iastore, 1) := by decide +kernel
theorem dX9_cores_202 : decode cX9_cores 202 = .ok (.aload_n 0, 1) := by decide +kernel
theorem dX9_cores_203 : decode cX9_cores 203 = .ok (.dup, 1) := by decide +kernel
theorem dX9_cores_204 : decode cX9_cores 204 = .ok (.getfield 199, 3) := by decide +kernel
theorem dX9_cores_207 : decode cX9_cores 207 = .ok (.iconst 1, 1) := by decide +kernel
theorem dX9_cores_208 : decode cX9_cores 208 = .ok (.iadd, 1) := by decide +kernel
theorem dX9_cores_209 : decode cX9_cores 209 = .ok (.putfield 199, 3) := by decide +kernel
theorem dX9_cores_212 : decode cX9_cores 212 = .ok (.iinc 1 1, 3) := by decide +kernel
theorem dX9_cores_215 : decode cX9_cores 215 = .ok (.goto (-208), 3) := by decide +kernel
theorem dX9_cores_218 : decode cX9_cores 218 = .ok (.return_, 1) := by decide +kernel
theorem dX9_rowOf_0 : decode cX9_rowOf 0 = .ok (.iload_n 1, 1) := by decide +kernel
theorem dX9_rowOf_1 : decode cX9_rowOf 1 = .ok (.istore_n 2, 1) := by decide +kernel
theorem dX9_rowOf_2 : decode cX9_rowOf 2 = .ok (.iconst 0, 1) := by decide +kernel
theorem dX9_rowOf_3 : decode cX9_rowOf 3 = .ok (.istore_n 3, 1) := by decide +kernel
theorem dX9_rowOf_4 : decode cX9_rowOf 4 = .ok (.iload_n 2, 1) := by decide +kernel
theorem dX9_rowOf_5 : decode cX9_rowOf 5 = .ok (.aload_n 0, 1) := by decide +kernel
theorem dX9_rowOf_6 : decode cX9_rowOf 6 = .ok (.aload_n 0, 1) := by decide +kernel
theorem dX9_rowOf_7 : decode cX9_rowOf 7 = .ok (.getfield 205, 3) := by decide +kernel
theorem dX9_rowOf_10 : decode cX9_rowOf 10 = .ok (.iload_n 3, 1) := by decide +kernel
theorem dX9_rowOf_11 : decode cX9_rowOf 11 = .ok (.invokevirtual 175, 3) := by decide +kernel
theorem dX9_rowOf_14 : decode cX9_rowOf 14 = .ok (.if_icmp .lt 21, 3) := by decide +kernel
theorem dX9_rowOf_17 : decode cX9_rowOf 17 = .ok (.iload_n 2, 1) := by decide +kernel
theorem dX9_rowOf_18 : decode cX9_rowOf 18 = .ok (.aload_n 0, 1) := by decide +kernel
theorem dX9_rowOf_19 : decode cX9_rowOf 19 = .ok (.aload_n 0, 1) := by decide +kernel
theorem dX9_rowOf_20 : decode cX9_rowOf 20 = .ok (.getfield 205, 3) := by decide +kernel
theorem dX9_rowOf_23 : decode cX9_rowOf 23 = .ok (.iload_n 3, 1) := by decide +kernel
theorem dX9_rowOf_24 : decode cX9_rowOf 24 = .ok (.invokevirtual 175, 3) := by decide +kernel
theorem dX9_rowOf_27 : decode cX9_rowOf 27 = .ok (.isub, 1) := by decide +kernel
theorem dX9_rowOf_28 : decode cX9_rowOf 28 = .ok (.istore_n 2, 1) := by decide +kernel
theorem dX9_rowOf_29 : decode cX9_rowOf 29 = .ok (.iinc 3 1, 3) := by decide +kernel
theorem dX9_rowOf_32 : decode cX9_rowOf 32 = .ok (.goto (-28), 3) := by decide +kernel
theorem dX9_rowOf_35 : decode cX9_rowOf 35 = .ok (.iload_n 3, 1) := by decide +kernel
theorem dX9_rowOf_36 : decode cX9_rowOf 36 = .ok (.ireturn, 1) := by decide +kernel
theorem dX9_cellAt_0 : decode cX9_cellAt 0 = .ok (.iload_n 2, 1) := by decide +kernel
theorem dX9_cellAt_1 : decode cX9_cellAt 1 = .ok (.istore_n 3, 1) := by decide +kernel
theorem dX9_cellAt_2 : decode cX9_cellAt 2 = .ok (.iconst 0, 1) := by decide +kernel
theorem dX9_cellAt_3 : decode cX9_cellAt 3 = .ok (.istore 4, 2) := by decide +kernel
theorem dX9_cellAt_5 : decode cX9_cellAt 5 = .ok (.iload 4, 2) := by decide +kernel
theorem dX9_cellAt_7 : decode cX9_cellAt 7 = .ok (.iload_n 1, 1) := by decide +kernel
theorem dX9_cellAt_8 : decode cX9_cellAt 8 = .ok (.if_icmp .ge 22, 3) := by decide +kernel
theorem dX9_cellAt_11 : decode cX9_cellAt 11 = .ok (.iload_n 3, 1) := by decide +kernel
theorem dX9_cellAt_12 : decode cX9_cellAt 12 = .ok (.aload_n 0, 1) := by decide +kernel
theorem dX9_cellAt_13 : decode cX9_cellAt 13 = .ok (.aload_n 0, 1) := by decide +kernel
theorem dX9_cellAt_14 : decode cX9_cellAt 14 = .ok (.getfield 205, 3) := by decide +kernel
theorem dX9_cellAt_17 : decode cX9_cellAt 17 = .ok (.iload 4, 2) := by decide +kernel
theorem dX9_cellAt_19 : decode cX9_cellAt 19 = .ok (.invokevirtual 175, 3) := by decide +kernel
theorem dX9_cellAt_22 : decode cX9_cellAt 22 = .ok (.iadd, 1) := by decide +kernel
theorem dX9_cellAt_23 : decode cX9_cellAt 23 = .ok (.istore_n 3, 1) := by decide +kernel
theorem dX9_cellAt_24 : decode cX9_cellAt 24 = .ok (.iinc 4 1, 3) := by decide +kernel
theorem dX9_cellAt_27 : decode cX9_cellAt 27 = .ok (.goto (-22), 3) := by decide +kernel
theorem dX9_cellAt_30 : decode cX9_cellAt 30 = .ok (.iload_n 3, 1) := by decide +kernel
theorem dX9_cellAt_31 : decode cX9_cellAt 31 = .ok (.ireturn, 1) := by decide +kernel
theorem dX9_fills_0 : decode cX9_fills 0 = .ok (.iload_n 1, 1) := by decide +kernel
theorem dX9_fills_1 : decode cX9_fills 1 = .ok (.aload_n 0, 1) := by decide +kernel
theorem dX9_fills_2 : decode cX9_fills 2 = .ok (.getfield 169, 3) := by decide +kernel
theorem dX9_fills_5 : decode cX9_fills 5 = .ok (.if_icmp .ne 50, 3) := by decide +kernel
theorem dX9_fills_8 : decode cX9_fills 8 = .ok (.iconst 0, 1) := by decide +kernel
theorem dX9_fills_9 : decode cX9_fills 9 = .ok (.istore_n 3, 1) := by decide +kernel
theorem dX9_fills_10 : decode cX9_fills 10 = .ok (.iload_n 3, 1) := by decide +kernel
theorem dX9_fills_11 : decode cX9_fills 11 = .ok (.aload_n 0, 1) := by decide +kernel
theorem dX9_fills_12 : decode cX9_fills 12 = .ok (.getfield 169, 3) := by decide +kernel
theorem dX9_fills_15 : decode cX9_fills 15 = .ok (.if_icmp .ge 29, 3) := by decide +kernel
theorem dX9_fills_18 : decode cX9_fills 18 = .ok (.aload_n 0, 1) := by decide +kernel
theorem dX9_fills_19 : decode cX9_fills 19 = .ok (.getfield 59, 3) := by decide +kernel
theorem dX9_fills_22 : decode cX9_fills 22 = .ok (.bipush 6, 2) := by decide +kernel
theorem dX9_fills_24 : decode cX9_fills 24 = .ok (.aload_n 0, 1) := by decide +kernel
theorem dX9_fills_25 : decode cX9_fills 25 = .ok (.getfield 208, 3) := by decide +kernel
theorem dX9_fills_28 : decode cX9_fills 28 = .ok (.imul, 1) := by decide +kernel
theorem dX9_fills_29 : decode cX9_fills 29 = .ok (.iload_n 3, 1) := by decide +kernel
theorem dX9_fills_30 : decode cX9_fills 30 = .ok (.iadd, 1) := by decide +kernel
theorem dX9_fills_31 : decode cX9_fills 31 = .ok (.aload_n 0, 1) := by decide +kernel
theorem dX9_fills_32 : decode cX9_fills 32 = .ok (.getfield 62, 3) := by decide +kernel
theorem dX9_fills_35 : decode cX9_fills 35 = .ok (.iload_n 3, 1) := by decide +kernel
theorem dX9_fills_36 : decode cX9_fills 36 = .ok (.iaload, 1) := by decide +kernel
theorem dX9_fills_37 : decode cX9_fills 37 = .ok (.iastore, 1) := by decide +kernel
theorem dX9_fills_38 : decode cX9_fills 38 = .ok (.iinc 3 1, 3) := by decide +kernel
theorem dX9_fills_41 : decode cX9_fills 41 = .ok (.goto (-31), 3) := by decide +kernel
theorem dX9_fills_44 : decode cX9_fills 44 = .ok (.aload_n 0, 1) := by decide +kernel
theorem dX9_fills_45 : decode cX9_fills 45 = .ok (.dup, 1) := by decide +kernel
theorem dX9_fills_46 : decode cX9_fills 46 = .ok (.getfield 208, 3) := by decide +kernel
theorem dX9_fills_49 : decode cX9_fills 49 = .ok (.iconst 1, 1) := by decide +kernel
theorem dX9_fills_50 : decode cX9_fills 50 = .ok (.iadd, 1) := by decide +kernel
theorem dX9_fills_51 : decode cX9_fills 51 = .ok (.putfield 208, 3) := by decide +kernel
theorem dX9_fills_54 : decode cX9_fills 54 = .ok (.return_, 1) := by decide +kernel
theorem dX9_fills_55 : decode cX9_fills 55 = .ok (.aload_n 0, 1) := by decide +kernel
theorem dX9_fills_56 : decode cX9_fills 56 = .ok (.iload_n 1, 1) := by decide +kernel
theorem dX9_fills_57 : decode cX9_fills 57 = .ok (.invokevirtual 211, 3) := by decide +kernel
theorem dX9_fills_60 : decode cX9_fills 60 = .ok (.istore_n 3, 1) := by decide +kernel
theorem dX9_fills_61 : decode cX9_fills 61 = .ok (.iload_n 1, 1) := by decide +kernel
theorem dX9_fills_62 : decode cX9_fills 62 = .ok (.aload_n 0, 1) := by decide +kernel
theorem dX9_fills_63 : decode cX9_fills 63 = .ok (.iload_n 3, 1) := by decide +kernel
theorem dX9_fills_64 : decode cX9_fills 64 = .ok (.iconst 0, 1) := by decide +kernel
theorem dX9_fills_65 : decode cX9_fills 65 = .ok (.invokevirtual 214, 3) := by decide +kernel
theorem dX9_fills_68 : decode cX9_fills 68 = .ok (.isub, 1) := by decide +kernel
theorem dX9_fills_69 : decode cX9_fills 69 = .ok (.istore 4, 2) := by decide +kernel
theorem dX9_fills_71 : decode cX9_fills 71 = .ok (.iconst 1, 1) := by decide +kernel
theorem dX9_fills_72 : decode cX9_fills 72 = .ok (.istore 5, 2) := by decide +kernel
theorem dX9_fills_74 : decode cX9_fills 74 = .ok (.iload 5, 2) := by decide +kernel
theorem dX9_fills_76 : decode cX9_fills 76 = .ok (.aload_n 0, 1) := by decide +kernel
theorem dX9_fills_77 : decode cX9_fills 77 = .ok (.getfield 169, 3) := by decide +kernel
theorem dX9_fills_80 : decode cX9_fills 80 = .ok (.if_icmp .gt 87, 3) := by decide +kernel
theorem dX9_fills_83 : decode cX9_fills 83 = .ok (.iload_n 2, 1) := by decide +kernel
theorem dX9_fills_84 : decode cX9_fills 84 = .ok (.iload 5, 2) := by decide +kernel
theorem dX9_fills_86 : decode cX9_fills 86 = .ok (.ishr, 1) := by decide +kernel
theorem dX9_fills_87 : decode cX9_fills 87 = .ok (.iconst 1, 1) := by decide +kernel
theorem dX9_fills_88 : decode cX9_fills 88 = .ok (.iand, 1) := by decide +kernel
theorem dX9_fills_89 : decode cX9_fills 89 = .ok (.iconst 1, 1) := by decide +kernel
theorem dX9_fills_90 : decode cX9_fills 90 = .ok (.if_icmp .ne 6, 3) := by decide +kernel
theorem dX9_fills_93 : decode cX9_fills 93 = .ok (.goto 68, 3) := by decide +kernel
theorem dX9_fills_96 : decode cX9_fills 96 = .ok (.iload 4, 2) := by decide +kernel
theorem dX9_fills_98 : decode cX9_fills 98 = .ok (.ifCond .le 16, 3) := by decide +kernel
theorem dX9_fills_101 : decode cX9_fills 101 = .ok (.aload_n 0, 1) := by decide +kernel
theorem dX9_fills_102 : decode cX9_fills 102 = .ok (.getfield 62, 3) := by decide +kernel
theorem dX9_fills_105 : decode cX9_fills 105 = .ok (.iload_n 1, 1) := by decide +kernel
theorem dX9_fills_106 : decode cX9_fills 106 = .ok (.iconst 1, 1) := by decide +kernel
theorem dX9_fills_107 : decode cX9_fills 107 = .ok (.isub, 1) := by decide +kernel
theorem dX9_fills_108 : decode cX9_fills 108 = .ok (.iaload, 1) := by decide +kernel
theorem dX9_fills_109 : decode cX9_fills 109 = .ok (.iload 5, 2) := by decide +kernel
theorem dX9_fills_111 : decode cX9_fills 111 = .ok (.if_icmp .gt 50, 3) := by decide +kernel
theorem dX9_fills_114 : decode cX9_fills 114 = .ok (.iload_n 3, 1) := by decide +kernel
theorem dX9_fills_115 : decode cX9_fills 115 = .ok (.ifCond .le 25, 3) := by decide +kernel
theorem dX9_fills_118 : decode cX9_fills 118 = .ok (.aload_n 0, 1) := by decide +kernel
theorem dX9_fills_119 : decode cX9_fills 119 = .ok (.getfield 62, 3) := by decide +kernel
theorem dX9_fills_122 : decode cX9_fills 122 = .ok (.aload_n 0, 1) := by decide +kernel
theorem dX9_fills_123 : decode cX9_fills 123 = .ok (.iload_n 3, 1) := by decide +kernel
theorem dX9_fills_124 : decode cX9_fills 124 = .ok (.iconst 1, 1) := by decide +kernel
theorem dX9_fills_125 : decode cX9_fills 125 = .ok (.isub, 1) := by decide +kernel
theorem dX9_fills_126 : decode cX9_fills 126 = .ok (.iload 4, 2) := by decide +kernel
theorem dX9_fills_128 : decode cX9_fills 128 = .ok (.invokevirtual 214, 3) := by decide +kernel
theorem dX9_fills_131 : decode cX9_fills 131 = .ok (.iaload, 1) := by decide +kernel
theorem dX9_fills_132 : decode cX9_fills 132 = .ok (.iload 5, 2) := by decide +kernel
theorem dX9_fills_134 : decode cX9_fills 134 = .ok (.if_icmp .le 6, 3) := by decide +kernel
theorem dX9_fills_137 : decode cX9_fills 137 = .ok (.goto 24, 3) := by decide +kernel
theorem dX9_fills_140 : decode cX9_fills 140 = .ok (.aload_n 0, 1) := by decide +kernel
theorem dX9_fills_141 : decode cX9_fills 141 = .ok (.getfield 62, 3) := by decide +kernel
theorem dX9_fills_144 : decode cX9_fills 144 = .ok (.iload_n 1, 1) := by decide +kernel
theorem dX9_fills_145 : decode cX9_fills 145 = .ok (.iload 5, 2) := by decide +kernel
theorem dX9_fills_147 : decode cX9_fills 147 = .ok (.iastore, 1) := by decide +kernel
theorem dX9_fills_148 : decode cX9_fills 148 = .ok (.aload_n 0, 1) := by decide +kernel
theorem dX9_fills_149 : decode cX9_fills 149 = .ok (.iload_n 1, 1) := by decide +kernel
theorem dX9_fills_150 : decode cX9_fills 150 = .ok (.iconst 1, 1) := by decide +kernel
theorem dX9_fills_151 : decode cX9_fills 151 = .ok (.iadd, 1) := by decide +kernel
theorem dX9_fills_152 : decode cX9_fills 152 = .ok (.iload_n 2, 1) := by decide +kernel
theorem dX9_fills_153 : decode cX9_fills 153 = .ok (.iconst 1, 1) := by decide +kernel
theorem dX9_fills_154 : decode cX9_fills 154 = .ok (.iload 5, 2) := by decide +kernel
theorem dX9_fills_156 : decode cX9_fills 156 = .ok (.ishl, 1) := by decide +kernel
theorem dX9_fills_157 : decode cX9_fills 157 = .ok (.ior, 1) := by decide +kernel
theorem dX9_fills_158 : decode cX9_fills 158 = .ok (.invokevirtual 217, 3) := by decide +kernel
theorem dX9_fills_161 : decode cX9_fills 161 = .ok (.iinc 5 1, 3) := by decide +kernel
theorem dX9_fills_164 : decode cX9_fills 164 = .ok (.goto (-90), 3) := by decide +kernel
theorem dX9_fills_167 : decode cX9_fills 167 = .ok (.return_, 1) := by decide +kernel
theorem dX9_placeNow_0 : decode cX9_placeNow 0 = .ok (.iconst 0, 1) := by decide +kernel
theorem dX9_placeNow_1 : decode cX9_placeNow 1 = .ok (.istore_n 1, 1) := by decide +kernel
theorem dX9_placeNow_2 : decode cX9_placeNow 2 = .ok (.aload_n 0, 1) := by decide +kernel
theorem dX9_placeNow_3 : decode cX9_placeNow 3 = .ok (.getfield 169, 3) := by decide +kernel
theorem dX9_placeNow_6 : decode cX9_placeNow 6 = .ok (.istore_n 2, 1) := by decide +kernel
theorem dX9_placeNow_7 : decode cX9_placeNow 7 = .ok (.iload_n 2, 1) := by decide +kernel
theorem dX9_placeNow_8 : decode cX9_placeNow 8 = .ok (.ifCond .le 21, 3) := by decide +kernel
theorem dX9_placeNow_11 : decode cX9_placeNow 11 = .ok (.bipush 6, 2) := by decide +kernel
theorem dX9_placeNow_13 : decode cX9_placeNow 13 = .ok (.iload_n 1, 1) := by decide +kernel
theorem dX9_placeNow_14 : decode cX9_placeNow 14 = .ok (.imul, 1) := by decide +kernel
theorem dX9_placeNow_15 : decode cX9_placeNow 15 = .ok (.aload_n 0, 1) := by decide +kernel
theorem dX9_placeNow_16 : decode cX9_placeNow 16 = .ok (.getfield 81, 3) := by decide +kernel
theorem dX9_placeNow_19 : decode cX9_placeNow 19 = .ok (.iload_n 2, 1) := by decide +kernel
theorem dX9_placeNow_20 : decode cX9_placeNow 20 = .ok (.iaload, 1) := by decide +kernel
theorem dX9_placeNow_21 : decode cX9_placeNow 21 = .ok (.iadd, 1) := by decide +kernel
theorem dX9_placeNow_22 : decode cX9_placeNow 22 = .ok (.istore_n 1, 1) := by decide +kernel
theorem dX9_placeNow_23 : decode cX9_placeNow 23 = .ok (.iinc 2 (-1), 3) := by decide +kernel
theorem dX9_placeNow_26 : decode cX9_placeNow 26 = .ok (.goto (-19), 3) := by decide +kernel
theorem dX9_placeNow_29 : decode cX9_placeNow 29 = .ok (.aload_n 0, 1) := by decide +kernel
theorem dX9_placeNow_30 : decode cX9_placeNow 30 = .ok (.getfield 66, 3) := by decide +kernel
theorem dX9_placeNow_33 : decode cX9_placeNow 33 = .ok (.iload_n 1, 1) := by decide +kernel
theorem dX9_placeNow_34 : decode cX9_placeNow 34 = .ok (.iaload, 1) := by decide +kernel
theorem dX9_placeNow_35 : decode cX9_placeNow 35 = .ok (.ifCond .ne 33, 3) := by decide +kernel
theorem dX9_placeNow_38 : decode cX9_placeNow 38 = .ok (.aload_n 0, 1) := by decide +kernel
theorem dX9_placeNow_39 : decode cX9_placeNow 39 = .ok (.getfield 69, 3) := by decide +kernel
theorem dX9_placeNow_42 : decode cX9_placeNow 42 = .ok (.aload_n 0, 1) := by decide +kernel
theorem dX9_placeNow_43 : decode cX9_placeNow 43 = .ok (.getfield 220, 3) := by decide +kernel
theorem dX9_placeNow_46 : decode cX9_placeNow 46 = .ok (.iload_n 1, 1) := by decide +kernel
theorem dX9_placeNow_47 : decode cX9_placeNow 47 = .ok (.iastore, 1) := by decide +kernel
theorem dX9_placeNow_48 : decode cX9_placeNow 48 = .ok (.aload_n 0, 1) := by decide +kernel
theorem dX9_placeNow_49 : decode cX9_placeNow 49 = .ok (.dup, 1) := by decide +kernel
theorem dX9_placeNow_50 : decode cX9_placeNow 50 = .ok (.getfield 220, 3) := by decide +kernel
theorem dX9_placeNow_53 : decode cX9_placeNow 53 = .ok (.iconst 1, 1) := by decide +kernel
theorem dX9_placeNow_54 : decode cX9_placeNow 54 = .ok (.iadd, 1) := by decide +kernel
theorem dX9_placeNow_55 : decode cX9_placeNow 55 = .ok (.putfield 220, 3) := by decide +kernel
theorem dX9_placeNow_58 : decode cX9_placeNow 58 = .ok (.aload_n 0, 1) := by decide +kernel
theorem dX9_placeNow_59 : decode cX9_placeNow 59 = .ok (.getfield 66, 3) := by decide +kernel
theorem dX9_placeNow_62 : decode cX9_placeNow 62 = .ok (.iload_n 1, 1) := by decide +kernel
theorem dX9_placeNow_63 : decode cX9_placeNow 63 = .ok (.aload_n 0, 1) := by decide +kernel
theorem dX9_placeNow_64 : decode cX9_placeNow 64 = .ok (.getfield 220, 3) := by decide +kernel
theorem dX9_placeNow_67 : decode cX9_placeNow 67 = .ok (.iastore, 1) := by decide +kernel
theorem dX9_placeNow_68 : decode cX9_placeNow 68 = .ok (.aload_n 0, 1) := by decide +kernel
theorem dX9_placeNow_69 : decode cX9_placeNow 69 = .ok (.getfield 66, 3) := by decide +kernel
theorem dX9_placeNow_72 : decode cX9_placeNow 72 = .ok (.iload_n 1, 1) := by decide +kernel
theorem dX9_placeNow_73 : decode cX9_placeNow 73 = .ok (.iaload, 1) := by decide +kernel
theorem dX9_placeNow_74 : decode cX9_placeNow 74 = .ok (.iconst 1, 1) := by decide +kernel
theorem dX9_placeNow_75 : decode cX9_placeNow 75 = .ok (.isub, 1) := by decide +kernel
theorem dX9_placeNow_76 : decode cX9_placeNow 76 = .ok (.ireturn, 1) := by decide +kernel
theorem dX9_spreads_0 : decode cX9_spreads 0 = .ok (.iload_n 3, 1) := by decide +kernel
theorem dX9_spreads_1 : decode cX9_spreads 1 = .ok (.aload_n 0, 1) := by decide +kernel
theorem dX9_spreads_2 : decode cX9_spreads 2 = .ok (.aload_n 0, 1) := by decide +kernel
theorem dX9_spreads_3 : decode cX9_spreads 3 = .ok (.getfield 205, 3) := by decide +kernel
theorem dX9_spreads_6 : decode cX9_spreads 6 = .ok (.iconst 0, 1) := by decide +kernel
theorem dX9_spreads_7 : decode cX9_spreads 7 = .ok (.invokevirtual 175, 3) := by decide +kernel
theorem dX9_spreads_10 : decode cX9_spreads 10 = .ok (.if_icmp .ne 17, 3) := by decide +kernel
theorem dX9_spreads_13 : decode cX9_spreads 13 = .ok (.aload_n 1, 1) := by decide +kernel
theorem dX9_spreads_14 : decode cX9_spreads 14 = .ok (.iload_n 2, 1) := by decide +kernel
theorem dX9_spreads_15 : decode cX9_spreads 15 = .ok (.aload_n 0, 1) := by decide +kernel
theorem dX9_spreads_16 : decode cX9_spreads 16 = .ok (.invokevirtual 223, 3) := by decide +kernel
theorem dX9_spreads_19 : decode cX9_spreads 19 = .ok (.iadd, 1) := by decide +kernel
theorem dX9_spreads_20 : decode cX9_spreads 20 = .ok (.dup2, 1) := by decide +kernel
theorem dX9_spreads_21 : decode cX9_spreads 21 = .ok (.iaload, 1) := by decide +kernel
theorem dX9_spreads_22 : decode cX9_spreads 22 = .ok (.iload 5, 2) := by decide +kernel
theorem dX9_spreads_24 : decode cX9_spreads 24 = .ok (.iadd, 1) := by decide +kernel
theorem dX9_spreads_25 : decode cX9_spreads 25 = .ok (.iastore, 1) := by decide +kernel
theorem dX9_spreads_26 : decode cX9_spreads 26 = .ok (.return_, 1) := by decide +kernel
theorem dX9_spreads_27 : decode cX9_spreads 27 = .ok (.iconst 0, 1) := by decide +kernel
theorem dX9_spreads_28 : decode cX9_spreads 28 = .ok (.istore 6, 2) := by decide +kernel
theorem dX9_spreads_30 : decode cX9_spreads 30 = .ok (.iload 6, 2) := by decide +kernel
theorem dX9_spreads_32 : decode cX9_spreads 32 = .ok (.bipush 6, 2) := by decide +kernel
theorem dX9_spreads_34 : decode cX9_spreads 34 = .ok (.if_icmp .ge 23, 3) := by decide +kernel
theorem dX9_spreads_37 : decode cX9_spreads 37 = .ok (.aload_n 0, 1) := by decide +kernel
theorem dX9_spreads_38 : decode cX9_spreads 38 = .ok (.aload_n 0, 1) := by decide +kernel
theorem dX9_spreads_39 : decode cX9_spreads 39 = .ok (.getfield 205, 3) := by decide +kernel
theorem dX9_spreads_42 : decode cX9_spreads 42 = .ok (.iload 6, 2) := by decide +kernel
theorem dX9_spreads_44 : decode cX9_spreads 44 = .ok (.invokevirtual 175, 3) := by decide +kernel
theorem dX9_spreads_47 : decode cX9_spreads 47 = .ok (.iload_n 3, 1) := by decide +kernel
theorem dX9_spreads_48 : decode cX9_spreads 48 = .ok (.if_icmp .le 9, 3) := by decide +kernel
theorem dX9_spreads_51 : decode cX9_spreads 51 = .ok (.iinc 6 1, 3) := by decide +kernel
theorem dX9_spreads_54 : decode cX9_spreads 54 = .ok (.goto (-24), 3) := by decide +kernel
theorem dX9_spreads_57 : decode cX9_spreads 57 = .ok (.iload 4, 2) := by decide +kernel
theorem dX9_spreads_59 : decode cX9_spreads 59 = .ok (.iload 6, 2) := by decide +kernel
theorem dX9_spreads_61 : decode cX9_spreads 61 = .ok (.if_icmp .ne 16, 3) := by decide +kernel
theorem dX9_spreads_64 : decode cX9_spreads 64 = .ok (.aload_n 0, 1) := by decide +kernel
theorem dX9_spreads_65 : decode cX9_spreads 65 = .ok (.aload_n 1, 1) := by decide +kernel
theorem dX9_spreads_66 : decode cX9_spreads 66 = .ok (.iload_n 2, 1) := by decide +kernel
theorem dX9_spreads_67 : decode cX9_spreads 67 = .ok (.iload_n 3, 1) := by decide +kernel
theorem dX9_spreads_68 : decode cX9_spreads 68 = .ok (.iconst 1, 1) := by decide +kernel
theorem dX9_spreads_69 : decode cX9_spreads 69 = .ok (.iadd, 1) := by decide +kernel
theorem dX9_spreads_70 : decode cX9_spreads 70 = .ok (.iconst 0, 1) := by decide +kernel
theorem dX9_spreads_71 : decode cX9_spreads 71 = .ok (.iload 5, 2) := by decide +kernel
theorem dX9_spreads_73 : decode cX9_spreads 73 = .ok (.invokevirtual 227, 3) := by decide +kernel
theorem dX9_spreads_76 : decode cX9_spreads 76 = .ok (.return_, 1) := by decide +kernel
theorem dX9_spreads_77 : decode cX9_spreads 77 = .ok (.iload 4, 2) := by decide +kernel
theorem dX9_spreads_79 : decode cX9_spreads 79 = .ok (.istore 7, 2) := by decide +kernel
theorem dX9_spreads_81 : decode cX9_spreads 81 = .ok (.iload 7, 2) := by decide +kernel
theorem dX9_spreads_83 : decode cX9_spreads 83 = .ok (.iload 6, 2) := by decide +kernel
theorem dX9_spreads_85 : decode cX9_spreads 85 = .ok (.if_icmp .ge 90, 3) := by decide +kernel
theorem dX9_spreads_88 : decode cX9_spreads 88 = .ok (.aload_n 0, 1) := by decide +kernel
theorem dX9_spreads_89 : decode cX9_spreads 89 = .ok (.aload_n 0, 1) := by decide +kernel
theorem dX9_spreads_90 : decode cX9_spreads 90 = .ok (.iload 4, 2) := by decide +kernel
theorem dX9_spreads_92 : decode cX9_spreads 92 = .ok (.iload_n 3, 1) := by decide +kernel
theorem dX9_spreads_93 : decode cX9_spreads 93 = .ok (.invokevirtual 214, 3) := by decide +kernel
theorem dX9_spreads_96 : decode cX9_spreads 96 = .ok (.aload_n 0, 1) := by decide +kernel
theorem dX9_spreads_97 : decode cX9_spreads 97 = .ok (.iload 7, 2) := by decide +kernel
theorem dX9_spreads_99 : decode cX9_spreads 99 = .ok (.iload_n 3, 1) := by decide +kernel
theorem dX9_spreads_100 : decode cX9_spreads 100 = .ok (.invokevirtual 214, 3) := by decide +kernel
theorem dX9_spreads_103 : decode cX9_spreads 103 = .ok (.invokevirtual 231, 3) := by decide +kernel
theorem dX9_spreads_106 : decode cX9_spreads 106 = .ok (.aload_n 0, 1) := by decide +kernel
theorem dX9_spreads_107 : decode cX9_spreads 107 = .ok (.getfield 81, 3) := by decide +kernel
theorem dX9_spreads_110 : decode cX9_spreads 110 = .ok (.aload_n 0, 1) := by decide +kernel
theorem dX9_spreads_111 : decode cX9_spreads 111 = .ok (.getfield 78, 3) := by decide +kernel
theorem dX9_spreads_114 : decode cX9_spreads 114 = .ok (.aload_n 0, 1) := by decide +kernel
theorem dX9_spreads_115 : decode cX9_spreads 115 = .ok (.iload 4, 2) := by decide +kernel
theorem dX9_spreads_117 : decode cX9_spreads 117 = .ok (.iload_n 3, 1) := by decide +kernel
theorem dX9_spreads_118 : decode cX9_spreads 118 = .ok (.invokevirtual 214, 3) := by decide +kernel
theorem dX9_spreads_121 : decode cX9_spreads 121 = .ok (.iaload, 1) := by decide +kernel
theorem dX9_spreads_122 : decode cX9_spreads 122 = .ok (.iload 4, 2) := by decide +kernel
theorem dX9_spreads_124 : decode cX9_spreads 124 = .ok (.iastore, 1) := by decide +kernel
theorem dX9_spreads_125 : decode cX9_spreads 125 = .ok (.aload_n 0, 1) := by decide +kernel
theorem dX9_spreads_126 : decode cX9_spreads 126 = .ok (.aload_n 1, 1) := by decide +kernel
theorem dX9_spreads_127 : decode cX9_spreads 127 = .ok (.iload_n 2, 1) := by decide +kernel
theorem dX9_spreads_128 : decode cX9_spreads 128 = .ok (.iload_n 3, 1) := by decide +kernel
theorem dX9_spreads_129 : decode cX9_spreads 129 = .ok (.iload 4, 2) := by decide +kernel
theorem dX9_spreads_131 : decode cX9_spreads 131 = .ok (.iconst 1, 1) := by decide +kernel
theorem dX9_spreads_132 : decode cX9_spreads 132 = .ok (.iadd, 1) := by decide +kernel
theorem dX9_spreads_133 : decode cX9_spreads 133 = .ok (.iload 7, 2) := by decide +kernel
theorem dX9_spreads_135 : decode cX9_spreads 135 = .ok (.iload 4, 2) := by decide +kernel
theorem dX9_spreads_137 : decode cX9_spreads 137 = .ok (.if_icmp .ne 8, 3) := by decide +kernel
theorem dX9_spreads_140 : decode cX9_spreads 140 = .ok (.iload 5, 2) := by decide +kernel
theorem dX9_spreads_142 : decode cX9_spreads 142 = .ok (.goto 6, 3) := by decide +kernel
theorem dX9_spreads_145 : decode cX9_spreads 145 = .ok (.iload 5, 2) := by decide +kernel
theorem dX9_spreads_147 : decode cX9_spreads 147 = .ok (.ineg, 1) := by decide +kernel
theorem dX9_spreads_148 : decode cX9_spreads 148 = .ok (.invokevirtual 227, 3) := by decide +kernel
theorem dX9_spreads_151 : decode cX9_spreads 151 = .ok (.aload_n 0, 1) := by decide +kernel
theorem dX9_spreads_152 : decode cX9_spreads 152 = .ok (.aload_n 0, 1) := by decide +kernel
theorem dX9_spreads_153 : decode cX9_spreads 153 = .ok (.iload 4, 2) := by decide +kernel
theorem dX9_spreads_155 : decode cX9_spreads 155 = .ok (.iload_n 3, 1) := by decide +kernel
theorem dX9_spreads_156 : decode cX9_spreads 156 = .ok (.invokevirtual 214, 3) := by decide +kernel
theorem dX9_spreads_159 : decode cX9_spreads 159 = .ok (.aload_n 0, 1) := by decide +kernel
theorem dX9_spreads_160 : decode cX9_spreads 160 = .ok (.iload 7, 2) := by decide +kernel
theorem dX9_spreads_162 : decode cX9_spreads 162 = .ok (.iload_n 3, 1) := by decide +kernel
theorem dX9_spreads_163 : decode cX9_spreads 163 = .ok (.invokevirtual 214, 3) := by decide +kernel
theorem dX9_spreads_166 : decode cX9_spreads 166 = .ok (.invokevirtual 231, 3) := by decide +kernel
theorem dX9_spreads_169 : decode cX9_spreads 169 = .ok (.iinc 7 1, 3) := by decide +kernel
theorem dX9_spreads_172 : decode cX9_spreads 172 = .ok (.goto (-91), 3) := by decide +kernel
theorem dX9_spreads_175 : decode cX9_spreads 175 = .ok (.return_, 1) := by decide +kernel
theorem dX9_swaps_0 : decode cX9_swaps 0 = .ok (.aload_n 0, 1) := by decide +kernel
theorem dX9_swaps_1 : decode cX9_swaps 1 = .ok (.getfield 78, 3) := by decide +kernel
theorem dX9_swaps_4 : decode cX9_swaps 4 = .ok (.iload_n 1, 1) := by decide +kernel
theorem dX9_swaps_5 : decode cX9_swaps 5 = .ok (.iaload, 1) := by decide +kernel
theorem dX9_swaps_6 : decode cX9_swaps 6 = .ok (.istore_n 3, 1) := by decide +kernel
theorem dX9_swaps_7 : decode cX9_swaps 7 = .ok (.aload_n 0, 1) := by decide +kernel
theorem dX9_swaps_8 : decode cX9_swaps 8 = .ok (.getfield 78, 3) := by decide +kernel
theorem dX9_swaps_11 : decode cX9_swaps 11 = .ok (.iload_n 1, 1) := by decide +kernel
theorem dX9_swaps_12 : decode cX9_swaps 12 = .ok (.aload_n 0, 1) := by decide +kernel
theorem dX9_swaps_13 : decode cX9_swaps 13 = .ok (.getfield 78, 3) := by decide +kernel
theorem dX9_swaps_16 : decode cX9_swaps 16 = .ok (.iload_n 2, 1) := by decide +kernel
theorem dX9_swaps_17 : decode cX9_swaps 17 = .ok (.iaload, 1) := by decide +kernel
theorem dX9_swaps_18 : decode cX9_swaps 18 = .ok (.iastore, 1) := by decide +kernel
theorem dX9_swaps_19 : decode cX9_swaps 19 = .ok (.aload_n 0, 1) := by decide +kernel
theorem dX9_swaps_20 : decode cX9_swaps 20 = .ok (.getfield 78, 3) := by decide +kernel
theorem dX9_swaps_23 : decode cX9_swaps 23 = .ok (.iload_n 2, 1) := by decide +kernel
theorem dX9_swaps_24 : decode cX9_swaps 24 = .ok (.iload_n 3, 1) := by decide +kernel
theorem dX9_swaps_25 : decode cX9_swaps 25 = .ok (.iastore, 1) := by decide +kernel
theorem dX9_swaps_26 : decode cX9_swaps 26 = .ok (.return_, 1) := by decide +kernel
theorem dX9_sumsOf_0 : decode cX9_sumsOf 0 = .ok (.iconst 0, 1) := by decide +kernel
theorem dX9_sumsOf_1 : decode cX9_sumsOf 1 = .ok (.istore_n 2, 1) := by decide +kernel
theorem dX9_sumsOf_2 : decode cX9_sumsOf 2 = .ok (.iload_n 2, 1) := by decide +kernel
theorem dX9_sumsOf_3 : decode cX9_sumsOf 3 = .ok (.sipush 12000, 3) := by decide +kernel
theorem dX9_sumsOf_6 : decode cX9_sumsOf 6 = .ok (.if_icmp .ge 13, 3) := by decide +kernel
theorem dX9_sumsOf_9 : decode cX9_sumsOf 9 = .ok (.aload_n 1, 1) := by decide +kernel
theorem dX9_sumsOf_10 : decode cX9_sumsOf 10 = .ok (.iload_n 2, 1) := by decide +kernel
theorem dX9_sumsOf_11 : decode cX9_sumsOf 11 = .ok (.iconst 0, 1) := by decide +kernel
theorem dX9_sumsOf_12 : decode cX9_sumsOf 12 = .ok (.iastore, 1) := by decide +kernel
theorem dX9_sumsOf_13 : decode cX9_sumsOf 13 = .ok (.iinc 2 1, 3) := by decide +kernel
theorem dX9_sumsOf_16 : decode cX9_sumsOf 16 = .ok (.goto (-14), 3) := by decide +kernel
theorem dX9_sumsOf_19 : decode cX9_sumsOf 19 = .ok (.iconst 0, 1) := by decide +kernel
theorem dX9_sumsOf_20 : decode cX9_sumsOf 20 = .ok (.istore_n 2, 1) := by decide +kernel
theorem dX9_sumsOf_21 : decode cX9_sumsOf 21 = .ok (.iload_n 2, 1) := by decide +kernel
theorem dX9_sumsOf_22 : decode cX9_sumsOf 22 = .ok (.aload_n 0, 1) := by decide +kernel
theorem dX9_sumsOf_23 : decode cX9_sumsOf 23 = .ok (.getfield 56, 3) := by decide +kernel
theorem dX9_sumsOf_26 : decode cX9_sumsOf 26 = .ok (.aload_n 0, 1) := by decide +kernel
theorem dX9_sumsOf_27 : decode cX9_sumsOf 27 = .ok (.getfield 205, 3) := by decide +kernel
theorem dX9_sumsOf_30 : decode cX9_sumsOf 30 = .ok (.iaload, 1) := by decide +kernel
theorem dX9_sumsOf_31 : decode cX9_sumsOf 31 = .ok (.if_icmp .ge 70, 3) := by decide +kernel
theorem dX9_sumsOf_34 : decode cX9_sumsOf 34 = .ok (.iconst 0, 1) := by decide +kernel
theorem dX9_sumsOf_35 : decode cX9_sumsOf 35 = .ok (.istore_n 3, 1) := by decide +kernel
theorem dX9_sumsOf_36 : decode cX9_sumsOf 36 = .ok (.iload_n 3, 1) := by decide +kernel
theorem dX9_sumsOf_37 : decode cX9_sumsOf 37 = .ok (.aload_n 0, 1) := by decide +kernel
theorem dX9_sumsOf_38 : decode cX9_sumsOf 38 = .ok (.getfield 169, 3) := by decide +kernel
theorem dX9_sumsOf_41 : decode cX9_sumsOf 41 = .ok (.if_icmp .ge 41, 3) := by decide +kernel
theorem dX9_sumsOf_44 : decode cX9_sumsOf 44 = .ok (.aload_n 0, 1) := by decide +kernel
theorem dX9_sumsOf_45 : decode cX9_sumsOf 45 = .ok (.getfield 78, 3) := by decide +kernel
theorem dX9_sumsOf_48 : decode cX9_sumsOf 48 = .ok (.iload_n 3, 1) := by decide +kernel
theorem dX9_sumsOf_49 : decode cX9_sumsOf 49 = .ok (.aload_n 0, 1) := by decide +kernel
theorem dX9_sumsOf_50 : decode cX9_sumsOf 50 = .ok (.getfield 84, 3) := by decide +kernel
theorem dX9_sumsOf_53 : decode cX9_sumsOf 53 = .ok (.aload_n 0, 1) := by decide +kernel
theorem dX9_sumsOf_54 : decode cX9_sumsOf 54 = .ok (.getfield 59, 3) := by decide +kernel
theorem dX9_sumsOf_57 : decode cX9_sumsOf 57 = .ok (.bipush 6, 2) := by decide +kernel
theorem dX9_sumsOf_59 : decode cX9_sumsOf 59 = .ok (.aload_n 0, 1) := by decide +kernel
theorem dX9_sumsOf_60 : decode cX9_sumsOf 60 = .ok (.getfield 53, 3) := by decide +kernel
theorem dX9_sumsOf_63 : decode cX9_sumsOf 63 = .ok (.aload_n 0, 1) := by decide +kernel
theorem dX9_sumsOf_64 : decode cX9_sumsOf 64 = .ok (.getfield 205, 3) := by decide +kernel
theorem dX9_sumsOf_67 : decode cX9_sumsOf 67 = .ok (.iaload, 1) := by decide +kernel
theorem dX9_sumsOf_68 : decode cX9_sumsOf 68 = .ok (.iload_n 2, 1) := by decide +kernel
theorem dX9_sumsOf_69 : decode cX9_sumsOf 69 = .ok (.iadd, 1) := by decide +kernel
theorem dX9_sumsOf_70 : decode cX9_sumsOf 70 = .ok (.imul, 1) := by decide +kernel
theorem dX9_sumsOf_71 : decode cX9_sumsOf 71 = .ok (.iload_n 3, 1) := by decide +kernel
theorem dX9_sumsOf_72 : decode cX9_sumsOf 72 = .ok (.iadd, 1) := by decide +kernel
theorem dX9_sumsOf_73 : decode cX9_sumsOf 73 = .ok (.iaload, 1) := by decide +kernel
theorem dX9_sumsOf_74 : decode cX9_sumsOf 74 = .ok (.iaload, 1) := by decide +kernel
theorem dX9_sumsOf_75 : decode cX9_sumsOf 75 = .ok (.iastore, 1) := by decide +kernel
theorem dX9_sumsOf_76 : decode cX9_sumsOf 76 = .ok (.iinc 3 1, 3) := by decide +kernel
theorem dX9_sumsOf_79 : decode cX9_sumsOf 79 = .ok (.goto (-43), 3) := by decide +kernel
theorem dX9_sumsOf_82 : decode cX9_sumsOf 82 = .ok (.aload_n 0, 1) := by decide +kernel
theorem dX9_sumsOf_83 : decode cX9_sumsOf 83 = .ok (.aload_n 1, 1) := by decide +kernel
theorem dX9_sumsOf_84 : decode cX9_sumsOf 84 = .ok (.sipush 720, 3) := by decide +kernel
theorem dX9_sumsOf_87 : decode cX9_sumsOf 87 = .ok (.iload_n 2, 1) := by decide +kernel
theorem dX9_sumsOf_88 : decode cX9_sumsOf 88 = .ok (.imul, 1) := by decide +kernel
theorem dX9_sumsOf_89 : decode cX9_sumsOf 89 = .ok (.iconst 0, 1) := by decide +kernel
theorem dX9_sumsOf_90 : decode cX9_sumsOf 90 = .ok (.iconst 0, 1) := by decide +kernel
theorem dX9_sumsOf_91 : decode cX9_sumsOf 91 = .ok (.iconst 1, 1) := by decide +kernel
theorem dX9_sumsOf_92 : decode cX9_sumsOf 92 = .ok (.invokevirtual 227, 3) := by decide +kernel
theorem dX9_sumsOf_95 : decode cX9_sumsOf 95 = .ok (.iinc 2 1, 3) := by decide +kernel
theorem dX9_sumsOf_98 : decode cX9_sumsOf 98 = .ok (.goto (-77), 3) := by decide +kernel
theorem dX9_sumsOf_101 : decode cX9_sumsOf 101 = .ok (.return_, 1) := by decide +kernel
theorem dX9_begins_0 : decode cX9_begins 0 = .ok (.iconst 0, 1) := by decide +kernel
theorem dX9_begins_1 : decode cX9_begins 1 = .ok (.istore_n 2, 1) := by decide +kernel
theorem dX9_begins_2 : decode cX9_begins 2 = .ok (.iload_n 2, 1) := by decide +kernel
theorem dX9_begins_3 : decode cX9_begins 3 = .ok (.aload_n 0, 1) := by decide +kernel
theorem dX9_begins_4 : decode cX9_begins 4 = .ok (.getfield 220, 3) := by decide +kernel
theorem dX9_begins_7 : decode cX9_begins 7 = .ok (.if_icmp .ge 21, 3) := by decide +kernel
theorem dX9_begins_10 : decode cX9_begins 10 = .ok (.aload_n 0, 1) := by decide +kernel
theorem dX9_begins_11 : decode cX9_begins 11 = .ok (.getfield 66, 3) := by decide +kernel
theorem dX9_begins_14 : decode cX9_begins 14 = .ok (.aload_n 0, 1) := by decide +kernel
theorem dX9_begins_15 : decode cX9_begins 15 = .ok (.getfield 69, 3) := by decide +kernel
theorem dX9_begins_18 : decode cX9_begins 18 = .ok (.iload_n 2, 1) := by decide +kernel
theorem dX9_begins_19 : decode cX9_begins 19 = .ok (.iaload, 1) := by decide +kernel
theorem dX9_begins_20 : decode cX9_begins 20 = .ok (.iconst 0, 1) := by decide +kernel
theorem dX9_begins_21 : decode cX9_begins 21 = .ok (.iastore, 1) := by decide +kernel
theorem dX9_begins_22 : decode cX9_begins 22 = .ok (.iinc 2 1, 3) := by decide +kernel
theorem dX9_begins_25 : decode cX9_begins 25 = .ok (.goto (-23), 3) := by decide +kernel
theorem dX9_begins_28 : decode cX9_begins 28 = .ok (.aload_n 0, 1) := by decide +kernel
theorem dX9_begins_29 : decode cX9_begins 29 = .ok (.iconst 0, 1) := by decide +kernel
theorem dX9_begins_30 : decode cX9_begins 30 = .ok (.putfield 220, 3) := by decide +kernel
theorem dX9_begins_33 : decode cX9_begins 33 = .ok (.aload_n 0, 1) := by decide +kernel
theorem dX9_begins_34 : decode cX9_begins 34 = .ok (.iload_n 1, 1) := by decide +kernel
theorem dX9_begins_35 : decode cX9_begins 35 = .ok (.putfield 205, 3) := by decide +kernel
theorem dX9_begins_38 : decode cX9_begins 38 = .ok (.iconst 1, 1) := by decide +kernel
theorem dX9_begins_39 : decode cX9_begins 39 = .ok (.istore_n 2, 1) := by decide +kernel
theorem dX9_begins_40 : decode cX9_begins 40 = .ok (.iload_n 2, 1) := by decide +kernel
theorem dX9_begins_41 : decode cX9_begins 41 = .ok (.aload_n 0, 1) := by decide +kernel
theorem dX9_begins_42 : decode cX9_begins 42 = .ok (.getfield 169, 3) := by decide +kernel
theorem dX9_begins_45 : decode cX9_begins 45 = .ok (.if_icmp .gt 16, 3) := by decide +kernel
theorem dX9_begins_48 : decode cX9_begins 48 = .ok (.aload_n 0, 1) := by decide +kernel
theorem dX9_begins_49 : decode cX9_begins 49 = .ok (.getfield 84, 3) := by decide +kernel
theorem dX9_begins_52 : decode cX9_begins 52 = .ok (.iload_n 2, 1) := by decide +kernel
theorem dX9_begins_53 : decode cX9_begins 53 = .ok (.iload_n 2, 1) := by decide +kernel
theorem dX9_begins_54 : decode cX9_begins 54 = .ok (.iastore, 1) := by decide +kernel
theorem dX9_begins_55 : decode cX9_begins 55 = .ok (.iinc 2 1, 3) := by decide +kernel
theorem dX9_begins_58 : decode cX9_begins 58 = .ok (.goto (-18), 3) := by decide +kernel
theorem dX9_begins_61 : decode cX9_begins 61 = .ok (.aload_n 0, 1) := by decide +kernel
theorem dX9_begins_62 : decode cX9_begins 62 = .ok (.aload_n 0, 1) := by decide +kernel
theorem dX9_begins_63 : decode cX9_begins 63 = .ok (.getfield 72, 3) := by decide +kernel
theorem dX9_begins_66 : decode cX9_begins 66 = .ok (.invokevirtual 234, 3) := by decide +kernel
theorem dX9_begins_69 : decode cX9_begins 69 = .ok (.return_, 1) := by decide +kernel
theorem dX9_form_0 : decode cX9_form 0 = .ok (.iconst 0, 1) := by decide +kernel
theorem dX9_form_1 : decode cX9_form 1 = .ok (.istore 5, 2) := by decide +kernel
theorem dX9_form_3 : decode cX9_form 3 = .ok (.iconst 0, 1) := by decide +kernel
theorem dX9_form_4 : decode cX9_form 4 = .ok (.istore 6, 2) := by decide +kernel
theorem dX9_form_6 : decode cX9_form 6 = .ok (.iload 6, 2) := by decide +kernel
theorem dX9_form_8 : decode cX9_form 8 = .ok (.aload_n 0, 1) := by decide +kernel
theorem dX9_form_9 : decode cX9_form 9 = .ok (.getfield 220, 3) := by decide +kernel
theorem dX9_form_12 : decode cX9_form 12 = .ok (.if_icmp .ge 36, 3) := by decide +kernel
theorem dX9_form_15 : decode cX9_form 15 = .ok (.iload 5, 2) := by decide +kernel
theorem dX9_form_17 : decode cX9_form 17 = .ok (.aload_n 1, 1) := by decide +kernel
theorem dX9_form_18 : decode cX9_form 18 = .ok (.sipush 720, 3) := by decide +kernel
theorem dX9_form_21 : decode cX9_form 21 = .ok (.iload_n 2, 1) := by decide +kernel
theorem dX9_form_22 : decode cX9_form 22 = .ok (.imul, 1) := by decide +kernel
theorem dX9_form_23 : decode cX9_form 23 = .ok (.iload 6, 2) := by decide +kernel
theorem dX9_form_25 : decode cX9_form 25 = .ok (.iadd, 1) := by decide +kernel
theorem dX9_form_26 : decode cX9_form 26 = .ok (.iaload, 1) := by decide +kernel
theorem dX9_form_27 : decode cX9_form 27 = .ok (.aload_n 3, 1) := by decide +kernel
theorem dX9_form_28 : decode cX9_form 28 = .ok (.sipush 720, 3) := by decide +kernel
theorem dX9_form_31 : decode cX9_form 31 = .ok (.iload 4, 2) := by decide +kernel
theorem dX9_form_33 : decode cX9_form 33 = .ok (.imul, 1) := by decide +kernel
theorem dX9_form_34 : decode cX9_form 34 = .ok (.iload 6, 2) := by decide +kernel
theorem dX9_form_36 : decode cX9_form 36 = .ok (.iadd, 1) := by decide +kernel
theorem dX9_form_37 : decode cX9_form 37 = .ok (.iaload, 1) := by decide +kernel
theorem dX9_form_38 : decode cX9_form 38 = .ok (.imul, 1) := by decide +kernel
theorem dX9_form_39 : decode cX9_form 39 = .ok (.iadd, 1) := by decide +kernel
theorem dX9_form_40 : decode cX9_form 40 = .ok (.istore 5, 2) := by decide +kernel
theorem dX9_form_42 : decode cX9_form 42 = .ok (.iinc 6 1, 3) := by decide +kernel
theorem dX9_form_45 : decode cX9_form 45 = .ok (.goto (-39), 3) := by decide +kernel
theorem dX9_form_48 : decode cX9_form 48 = .ok (.iload 5, 2) := by decide +kernel
theorem dX9_form_50 : decode cX9_form 50 = .ok (.ireturn, 1) := by decide +kernel
theorem dX9_power_0 : decode cX9_power 0 = .ok (.lconst 1, 1) := by decide +kernel
theorem dX9_power_1 : decode cX9_power 1 = .ok (.lstore_n 3, 1) := by decide +kernel
theorem dX9_power_2 : decode cX9_power 2 = .ok (.iload_n 0, 1) := by decide +kernel
theorem dX9_power_3 : decode cX9_power 3 = .ok (.i2l, 1) := by decide +kernel
theorem dX9_power_4 : decode cX9_power 4 = .ok (.lstore 5, 2) := by decide +kernel
theorem dX9_power_6 : decode cX9_power 6 = .ok (.iload_n 1, 1) := by decide +kernel
theorem dX9_power_7 : decode cX9_power 7 = .ok (.istore 7, 2) := by decide +kernel
theorem dX9_power_9 : decode cX9_power 9 = .ok (.iload 7, 2) := by decide +kernel
theorem dX9_power_11 : decode cX9_power 11 = .ok (.ifCond .le 38, 3) := by decide +kernel
theorem dX9_power_14 : decode cX9_power 14 = .ok (.iload 7, 2) := by decide +kernel
theorem dX9_power_16 : decode cX9_power 16 = .ok (.iconst 1, 1) := by decide +kernel
theorem dX9_power_17 : decode cX9_power 17 = .ok (.iand, 1) := by decide +kernel
theorem dX9_power_18 : decode cX9_power 18 = .ok (.iconst 1, 1) := by decide +kernel
theorem dX9_power_19 : decode cX9_power 19 = .ok (.if_icmp .ne 11, 3) := by decide +kernel
theorem dX9_power_22 : decode cX9_power 22 = .ok (.lload_n 3, 1) := by decide +kernel
theorem dX9_power_23 : decode cX9_power 23 = .ok (.lload 5, 2) := by decide +kernel
theorem dX9_power_25 : decode cX9_power 25 = .ok (.lmul, 1) := by decide +kernel
theorem dX9_power_26 : decode cX9_power 26 = .ok (.iload_n 2, 1) := by decide +kernel
theorem dX9_power_27 : decode cX9_power 27 = .ok (.i2l, 1) := by decide +kernel
theorem dX9_power_28 : decode cX9_power 28 = .ok (.lrem, 1) := by decide +kernel
theorem dX9_power_29 : decode cX9_power 29 = .ok (.lstore_n 3, 1) := by decide +kernel
theorem dX9_power_30 : decode cX9_power 30 = .ok (.lload 5, 2) := by decide +kernel
theorem dX9_power_32 : decode cX9_power 32 = .ok (.lload 5, 2) := by decide +kernel
theorem dX9_power_34 : decode cX9_power 34 = .ok (.lmul, 1) := by decide +kernel
