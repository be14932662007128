/-! instructions, by program -/
theorem dX9_power_35 : decode cX9_power 35 = .ok (.iload_n 2, 1) := by decide +kernel
theorem dX9_power_36 : decode cX9_power 36 = .ok (.i2l, 1) := by decide +kernel
theorem dX9_power_37 : decode cX9_power 37 = .ok (.lrem, 1) := by decide +kernel
theorem dX9_power_38 : decode cX9_power 38 = .ok (.lstore 5, 2) := by decide +kernel
theorem dX9_power_40 : decode cX9_power 40 = .ok (.iload 7, 2) := by decide +kernel
theorem dX9_power_42 : decode cX9_power 42 = .ok (.iconst 1, 1) := by decide +kernel
theorem dX9_power_43 : decode cX9_power 43 = .ok (.ishr, 1) := by decide +kernel
theorem dX9_power_44 : decode cX9_power 44 = .ok (.istore 7, 2) := by decide +kernel
theorem dX9_power_46 : decode cX9_power 46 = .ok (.goto (-37), 3) := by decide +kernel
theorem dX9_power_49 : decode cX9_power 49 = .ok (.lload_n 3, 1) := by decide +kernel
theorem dX9_power_50 : decode cX9_power 50 = .ok (.l2i, 1) := by decide +kernel
theorem dX9_power_51 : decode cX9_power 51 = .ok (.ireturn, 1) := by decide +kernel
theorem dX9_rankOf_0 : decode cX9_rankOf 0 = .ok (.iconst 0, 1) := by decide +kernel
theorem dX9_rankOf_1 : decode cX9_rankOf 1 = .ok (.istore_n 2, 1) := by decide +kernel
theorem dX9_rankOf_2 : decode cX9_rankOf 2 = .ok (.iconst 0, 1) := by decide +kernel
theorem dX9_rankOf_3 : decode cX9_rankOf 3 = .ok (.istore_n 3, 1) := by decide +kernel
theorem dX9_rankOf_4 : decode cX9_rankOf 4 = .ok (.iload_n 3, 1) := by decide +kernel
theorem dX9_rankOf_5 : decode cX9_rankOf 5 = .ok (.iload_n 1, 1) := by decide +kernel
theorem dX9_rankOf_6 : decode cX9_rankOf 6 = .ok (.if_icmp .ge 257, 3) := by decide +kernel
theorem dX9_rankOf_9 : decode cX9_rankOf 9 = .ok (.iload_n 2, 1) := by decide +kernel
theorem dX9_rankOf_10 : decode cX9_rankOf 10 = .ok (.iload_n 1, 1) := by decide +kernel
theorem dX9_rankOf_11 : decode cX9_rankOf 11 = .ok (.if_icmp .ge 252, 3) := by decide +kernel
theorem dX9_rankOf_14 : decode cX9_rankOf 14 = .ok (.iload_n 2, 1) := by decide +kernel
theorem dX9_rankOf_15 : decode cX9_rankOf 15 = .ok (.istore 4, 2) := by decide +kernel
theorem dX9_rankOf_17 : decode cX9_rankOf 17 = .ok (.iload 4, 2) := by decide +kernel
theorem dX9_rankOf_19 : decode cX9_rankOf 19 = .ok (.iload_n 1, 1) := by decide +kernel
theorem dX9_rankOf_20 : decode cX9_rankOf 20 = .ok (.if_icmp .ge 24, 3) := by decide +kernel
theorem dX9_rankOf_23 : decode cX9_rankOf 23 = .ok (.aload_n 0, 1) := by decide +kernel
theorem dX9_rankOf_24 : decode cX9_rankOf 24 = .ok (.getfield 87, 3) := by decide +kernel
theorem dX9_rankOf_27 : decode cX9_rankOf 27 = .ok (.bipush 16, 2) := by decide +kernel
theorem dX9_rankOf_29 : decode cX9_rankOf 29 = .ok (.iload 4, 2) := by decide +kernel
theorem dX9_rankOf_31 : decode cX9_rankOf 31 = .ok (.imul, 1) := by decide +kernel
theorem dX9_rankOf_32 : decode cX9_rankOf 32 = .ok (.iload_n 3, 1) := by decide +kernel
theorem dX9_rankOf_33 : decode cX9_rankOf 33 = .ok (.iadd, 1) := by decide +kernel
theorem dX9_rankOf_34 : decode cX9_rankOf 34 = .ok (.iaload, 1) := by decide +kernel
theorem dX9_rankOf_35 : decode cX9_rankOf 35 = .ok (.ifCond .ne 9, 3) := by decide +kernel
theorem dX9_rankOf_38 : decode cX9_rankOf 38 = .ok (.iinc 4 1, 3) := by decide +kernel
theorem dX9_rankOf_41 : decode cX9_rankOf 41 = .ok (.goto (-24), 3) := by decide +kernel
theorem dX9_rankOf_44 : decode cX9_rankOf 44 = .ok (.iload 4, 2) := by decide +kernel
theorem dX9_rankOf_46 : decode cX9_rankOf 46 = .ok (.iload_n 1, 1) := by decide +kernel
theorem dX9_rankOf_47 : decode cX9_rankOf 47 = .ok (.if_icmp .ne 6, 3) := by decide +kernel
theorem dX9_rankOf_50 : decode cX9_rankOf 50 = .ok (.goto 207, 3) := by decide +kernel
theorem dX9_rankOf_53 : decode cX9_rankOf 53 = .ok (.iconst 0, 1) := by decide +kernel
theorem dX9_rankOf_54 : decode cX9_rankOf 54 = .ok (.istore 5, 2) := by decide +kernel
theorem dX9_rankOf_56 : decode cX9_rankOf 56 = .ok (.iload 5, 2) := by decide +kernel
theorem dX9_rankOf_58 : decode cX9_rankOf 58 = .ok (.iload_n 1, 1) := by decide +kernel
theorem dX9_rankOf_59 : decode cX9_rankOf 59 = .ok (.if_icmp .ge 63, 3) := by decide +kernel
theorem dX9_rankOf_62 : decode cX9_rankOf 62 = .ok (.aload_n 0, 1) := by decide +kernel
theorem dX9_rankOf_63 : decode cX9_rankOf 63 = .ok (.getfield 87, 3) := by decide +kernel
theorem dX9_rankOf_66 : decode cX9_rankOf 66 = .ok (.bipush 16, 2) := by decide +kernel
theorem dX9_rankOf_68 : decode cX9_rankOf 68 = .ok (.iload 4, 2) := by decide +kernel
theorem dX9_rankOf_70 : decode cX9_rankOf 70 = .ok (.imul, 1) := by decide +kernel
theorem dX9_rankOf_71 : decode cX9_rankOf 71 = .ok (.iload 5, 2) := by decide +kernel
theorem dX9_rankOf_73 : decode cX9_rankOf 73 = .ok (.iadd, 1) := by decide +kernel
theorem dX9_rankOf_74 : decode cX9_rankOf 74 = .ok (.iaload, 1) := by decide +kernel
theorem dX9_rankOf_75 : decode cX9_rankOf 75 = .ok (.istore 6, 2) := by decide +kernel
theorem dX9_rankOf_77 : decode cX9_rankOf 77 = .ok (.aload_n 0, 1) := by decide +kernel
theorem dX9_rankOf_78 : decode cX9_rankOf 78 = .ok (.getfield 87, 3) := by decide +kernel
theorem dX9_rankOf_81 : decode cX9_rankOf 81 = .ok (.bipush 16, 2) := by decide +kernel
theorem dX9_rankOf_83 : decode cX9_rankOf 83 = .ok (.iload 4, 2) := by decide +kernel
theorem dX9_rankOf_85 : decode cX9_rankOf 85 = .ok (.imul, 1) := by decide +kernel
theorem dX9_rankOf_86 : decode cX9_rankOf 86 = .ok (.iload 5, 2) := by decide +kernel
theorem dX9_rankOf_88 : decode cX9_rankOf 88 = .ok (.iadd, 1) := by decide +kernel
theorem dX9_rankOf_89 : decode cX9_rankOf 89 = .ok (.aload_n 0, 1) := by decide +kernel
theorem dX9_rankOf_90 : decode cX9_rankOf 90 = .ok (.getfield 87, 3) := by decide +kernel
theorem dX9_rankOf_93 : decode cX9_rankOf 93 = .ok (.bipush 16, 2) := by decide +kernel
theorem dX9_rankOf_95 : decode cX9_rankOf 95 = .ok (.iload_n 2, 1) := by decide +kernel
theorem dX9_rankOf_96 : decode cX9_rankOf 96 = .ok (.imul, 1) := by decide +kernel
theorem dX9_rankOf_97 : decode cX9_rankOf 97 = .ok (.iload 5, 2) := by decide +kernel
theorem dX9_rankOf_99 : decode cX9_rankOf 99 = .ok (.iadd, 1) := by decide +kernel
theorem dX9_rankOf_100 : decode cX9_rankOf 100 = .ok (.iaload, 1) := by decide +kernel
theorem dX9_rankOf_101 : decode cX9_rankOf 101 = .ok (.iastore, 1) := by decide +kernel
theorem dX9_rankOf_102 : decode cX9_rankOf 102 = .ok (.aload_n 0, 1) := by decide +kernel
theorem dX9_rankOf_103 : decode cX9_rankOf 103 = .ok (.getfield 87, 3) := by decide +kernel
theorem dX9_rankOf_106 : decode cX9_rankOf 106 = .ok (.bipush 16, 2) := by decide +kernel
theorem dX9_rankOf_108 : decode cX9_rankOf 108 = .ok (.iload_n 2, 1) := by decide +kernel
theorem dX9_rankOf_109 : decode cX9_rankOf 109 = .ok (.imul, 1) := by decide +kernel
theorem dX9_rankOf_110 : decode cX9_rankOf 110 = .ok (.iload 5, 2) := by decide +kernel
theorem dX9_rankOf_112 : decode cX9_rankOf 112 = .ok (.iadd, 1) := by decide +kernel
theorem dX9_rankOf_113 : decode cX9_rankOf 113 = .ok (.iload 6, 2) := by decide +kernel
theorem dX9_rankOf_115 : decode cX9_rankOf 115 = .ok (.iastore, 1) := by decide +kernel
theorem dX9_rankOf_116 : decode cX9_rankOf 116 = .ok (.iinc 5 1, 3) := by decide +kernel
theorem dX9_rankOf_119 : decode cX9_rankOf 119 = .ok (.goto (-63), 3) := by decide +kernel
theorem dX9_rankOf_122 : decode cX9_rankOf 122 = .ok (.aload_n 0, 1) := by decide +kernel
theorem dX9_rankOf_123 : decode cX9_rankOf 123 = .ok (.getfield 87, 3) := by decide +kernel
theorem dX9_rankOf_126 : decode cX9_rankOf 126 = .ok (.bipush 16, 2) := by decide +kernel
theorem dX9_rankOf_128 : decode cX9_rankOf 128 = .ok (.iload_n 2, 1) := by decide +kernel
theorem dX9_rankOf_129 : decode cX9_rankOf 129 = .ok (.imul, 1) := by decide +kernel
theorem dX9_rankOf_130 : decode cX9_rankOf 130 = .ok (.iload_n 3, 1) := by decide +kernel
theorem dX9_rankOf_131 : decode cX9_rankOf 131 = .ok (.iadd, 1) := by decide +kernel
theorem dX9_rankOf_132 : decode cX9_rankOf 132 = .ok (.iaload, 1) := by decide +kernel
theorem dX9_rankOf_133 : decode cX9_rankOf 133 = .ok (.aload_n 0, 1) := by decide +kernel
theorem dX9_rankOf_134 : decode cX9_rankOf 134 = .ok (.getfield 184, 3) := by decide +kernel
theorem dX9_rankOf_137 : decode cX9_rankOf 137 = .ok (.iconst 2, 1) := by decide +kernel
theorem dX9_rankOf_138 : decode cX9_rankOf 138 = .ok (.isub, 1) := by decide +kernel
theorem dX9_rankOf_139 : decode cX9_rankOf 139 = .ok (.aload_n 0, 1) := by decide +kernel
theorem dX9_rankOf_140 : decode cX9_rankOf 140 = .ok (.getfield 184, 3) := by decide +kernel
theorem dX9_rankOf_143 : decode cX9_rankOf 143 = .ok (.invokestatic 238, 3) := by decide +kernel
theorem dX9_rankOf_146 : decode cX9_rankOf 146 = .ok (.istore 5, 2) := by decide +kernel
theorem dX9_rankOf_148 : decode cX9_rankOf 148 = .ok (.iload_n 2, 1) := by decide +kernel
theorem dX9_rankOf_149 : decode cX9_rankOf 149 = .ok (.iconst 1, 1) := by decide +kernel
theorem dX9_rankOf_150 : decode cX9_rankOf 150 = .ok (.iadd, 1) := by decide +kernel
theorem dX9_rankOf_151 : decode cX9_rankOf 151 = .ok (.istore 6, 2) := by decide +kernel
theorem dX9_rankOf_153 : decode cX9_rankOf 153 = .ok (.iload 6, 2) := by decide +kernel
theorem dX9_rankOf_155 : decode cX9_rankOf 155 = .ok (.iload_n 1, 1) := by decide +kernel
theorem dX9_rankOf_156 : decode cX9_rankOf 156 = .ok (.if_icmp .ge 98, 3) := by decide +kernel
theorem dX9_rankOf_159 : decode cX9_rankOf 159 = .ok (.aload_n 0, 1) := by decide +kernel
theorem dX9_rankOf_160 : decode cX9_rankOf 160 = .ok (.getfield 87, 3) := by decide +kernel
theorem dX9_rankOf_163 : decode cX9_rankOf 163 = .ok (.bipush 16, 2) := by decide +kernel
theorem dX9_rankOf_165 : decode cX9_rankOf 165 = .ok (.iload 6, 2) := by decide +kernel
theorem dX9_rankOf_167 : decode cX9_rankOf 167 = .ok (.imul, 1) := by decide +kernel
theorem dX9_rankOf_168 : decode cX9_rankOf 168 = .ok (.iload_n 3, 1) := by decide +kernel
theorem dX9_rankOf_169 : decode cX9_rankOf 169 = .ok (.iadd, 1) := by decide +kernel
theorem dX9_rankOf_170 : decode cX9_rankOf 170 = .ok (.iaload, 1) := by decide +kernel
theorem dX9_rankOf_171 : decode cX9_rankOf 171 = .ok (.iload 5, 2) := by decide +kernel
theorem dX9_rankOf_173 : decode cX9_rankOf 173 = .ok (.imul, 1) := by decide +kernel
theorem dX9_rankOf_174 : decode cX9_rankOf 174 = .ok (.aload_n 0, 1) := by decide +kernel
theorem dX9_rankOf_175 : decode cX9_rankOf 175 = .ok (.getfield 184, 3) := by decide +kernel
theorem dX9_rankOf_178 : decode cX9_rankOf 178 = .ok (.irem, 1) := by decide +kernel
theorem dX9_rankOf_179 : decode cX9_rankOf 179 = .ok (.istore 7, 2) := by decide +kernel
theorem dX9_rankOf_181 : decode cX9_rankOf 181 = .ok (.iload_n 3, 1) := by decide +kernel
theorem dX9_rankOf_182 : decode cX9_rankOf 182 = .ok (.istore 8, 2) := by decide +kernel
theorem dX9_rankOf_184 : decode cX9_rankOf 184 = .ok (.iload 8, 2) := by decide +kernel
theorem dX9_rankOf_186 : decode cX9_rankOf 186 = .ok (.iload_n 1, 1) := by decide +kernel
theorem dX9_rankOf_187 : decode cX9_rankOf 187 = .ok (.if_icmp .ge 61, 3) := by decide +kernel
theorem dX9_rankOf_190 : decode cX9_rankOf 190 = .ok (.aload_n 0, 1) := by decide +kernel
theorem dX9_rankOf_191 : decode cX9_rankOf 191 = .ok (.getfield 87, 3) := by decide +kernel
theorem dX9_rankOf_194 : decode cX9_rankOf 194 = .ok (.bipush 16, 2) := by decide +kernel
theorem dX9_rankOf_196 : decode cX9_rankOf 196 = .ok (.iload 6, 2) := by decide +kernel
theorem dX9_rankOf_198 : decode cX9_rankOf 198 = .ok (.imul, 1) := by decide +kernel
theorem dX9_rankOf_199 : decode cX9_rankOf 199 = .ok (.iload 8, 2) := by decide +kernel
theorem dX9_rankOf_201 : decode cX9_rankOf 201 = .ok (.iadd, 1) := by decide +kernel
theorem dX9_rankOf_202 : decode cX9_rankOf 202 = .ok (.aload_n 0, 1) := by decide +kernel
theorem dX9_rankOf_203 : decode cX9_rankOf 203 = .ok (.getfield 87, 3) := by decide +kernel
theorem dX9_rankOf_206 : decode cX9_rankOf 206 = .ok (.bipush 16, 2) := by decide +kernel
theorem dX9_rankOf_208 : decode cX9_rankOf 208 = .ok (.iload 6, 2) := by decide +kernel
theorem dX9_rankOf_210 : decode cX9_rankOf 210 = .ok (.imul, 1) := by decide +kernel
theorem dX9_rankOf_211 : decode cX9_rankOf 211 = .ok (.iload 8, 2) := by decide +kernel
theorem dX9_rankOf_213 : decode cX9_rankOf 213 = .ok (.iadd, 1) := by decide +kernel
theorem dX9_rankOf_214 : decode cX9_rankOf 214 = .ok (.iaload, 1) := by decide +kernel
theorem dX9_rankOf_215 : decode cX9_rankOf 215 = .ok (.aload_n 0, 1) := by decide +kernel
theorem dX9_rankOf_216 : decode cX9_rankOf 216 = .ok (.getfield 184, 3) := by decide +kernel
theorem dX9_rankOf_219 : decode cX9_rankOf 219 = .ok (.iload 7, 2) := by decide +kernel
theorem dX9_rankOf_221 : decode cX9_rankOf 221 = .ok (.isub, 1) := by decide +kernel
theorem dX9_rankOf_222 : decode cX9_rankOf 222 = .ok (.aload_n 0, 1) := by decide +kernel
theorem dX9_rankOf_223 : decode cX9_rankOf 223 = .ok (.getfield 87, 3) := by decide +kernel
theorem dX9_rankOf_226 : decode cX9_rankOf 226 = .ok (.bipush 16, 2) := by decide +kernel
theorem dX9_rankOf_228 : decode cX9_rankOf 228 = .ok (.iload_n 2, 1) := by decide +kernel
theorem dX9_rankOf_229 : decode cX9_rankOf 229 = .ok (.imul, 1) := by decide +kernel
theorem dX9_rankOf_230 : decode cX9_rankOf 230 = .ok (.iload 8, 2) := by decide +kernel
theorem dX9_rankOf_232 : decode cX9_rankOf 232 = .ok (.iadd, 1) := by decide +kernel
theorem dX9_rankOf_233 : decode cX9_rankOf 233 = .ok (.iaload, 1) := by decide +kernel
theorem dX9_rankOf_234 : decode cX9_rankOf 234 = .ok (.imul, 1) := by decide +kernel
theorem dX9_rankOf_235 : decode cX9_rankOf 235 = .ok (.iadd, 1) := by decide +kernel
theorem dX9_rankOf_236 : decode cX9_rankOf 236 = .ok (.aload_n 0, 1) := by decide +kernel
theorem dX9_rankOf_237 : decode cX9_rankOf 237 = .ok (.getfield 184, 3) := by decide +kernel
theorem dX9_rankOf_240 : decode cX9_rankOf 240 = .ok (.irem, 1) := by decide +kernel
theorem dX9_rankOf_241 : decode cX9_rankOf 241 = .ok (.iastore, 1) := by decide +kernel
theorem dX9_rankOf_242 : decode cX9_rankOf 242 = .ok (.iinc 8 1, 3) := by decide +kernel
theorem dX9_rankOf_245 : decode cX9_rankOf 245 = .ok (.goto (-61), 3) := by decide +kernel
theorem dX9_rankOf_248 : decode cX9_rankOf 248 = .ok (.iinc 6 1, 3) := by decide +kernel
theorem dX9_rankOf_251 : decode cX9_rankOf 251 = .ok (.goto (-98), 3) := by decide +kernel
theorem dX9_rankOf_254 : decode cX9_rankOf 254 = .ok (.iinc 2 1, 3) := by decide +kernel
theorem dX9_rankOf_257 : decode cX9_rankOf 257 = .ok (.iinc 3 1, 3) := by decide +kernel
theorem dX9_rankOf_260 : decode cX9_rankOf 260 = .ok (.goto (-256), 3) := by decide +kernel
theorem dX9_rankOf_263 : decode cX9_rankOf 263 = .ok (.iload_n 2, 1) := by decide +kernel
theorem dX9_rankOf_264 : decode cX9_rankOf 264 = .ok (.ireturn, 1) := by decide +kernel
theorem dX9_forms_0 : decode cX9_forms 0 = .ok (.aload_n 0, 1) := by decide +kernel
theorem dX9_forms_1 : decode cX9_forms 1 = .ok (.iload_n 1, 1) := by decide +kernel
theorem dX9_forms_2 : decode cX9_forms 2 = .ok (.invokevirtual 241, 3) := by decide +kernel
theorem dX9_forms_5 : decode cX9_forms 5 = .ok (.iconst 0, 1) := by decide +kernel
theorem dX9_forms_6 : decode cX9_forms 6 = .ok (.istore_n 2, 1) := by decide +kernel
theorem dX9_forms_7 : decode cX9_forms 7 = .ok (.iload_n 2, 1) := by decide +kernel
theorem dX9_forms_8 : decode cX9_forms 8 = .ok (.aload_n 0, 1) := by decide +kernel
theorem dX9_forms_9 : decode cX9_forms 9 = .ok (.getfield 56, 3) := by decide +kernel
theorem dX9_forms_12 : decode cX9_forms 12 = .ok (.iload_n 1, 1) := by decide +kernel
theorem dX9_forms_13 : decode cX9_forms 13 = .ok (.iaload, 1) := by decide +kernel
theorem dX9_forms_14 : decode cX9_forms 14 = .ok (.if_icmp .ge 90, 3) := by decide +kernel
theorem dX9_forms_17 : decode cX9_forms 17 = .ok (.iconst 0, 1) := by decide +kernel
theorem dX9_forms_18 : decode cX9_forms 18 = .ok (.istore_n 3, 1) := by decide +kernel
theorem dX9_forms_19 : decode cX9_forms 19 = .ok (.iload_n 3, 1) := by decide +kernel
theorem dX9_forms_20 : decode cX9_forms 20 = .ok (.aload_n 0, 1) := by decide +kernel
theorem dX9_forms_21 : decode cX9_forms 21 = .ok (.getfield 56, 3) := by decide +kernel
theorem dX9_forms_24 : decode cX9_forms 24 = .ok (.iload_n 1, 1) := by decide +kernel
theorem dX9_forms_25 : decode cX9_forms 25 = .ok (.iaload, 1) := by decide +kernel
theorem dX9_forms_26 : decode cX9_forms 26 = .ok (.if_icmp .ge 72, 3) := by decide +kernel
theorem dX9_forms_29 : decode cX9_forms 29 = .ok (.aload_n 0, 1) := by decide +kernel
theorem dX9_forms_30 : decode cX9_forms 30 = .ok (.aload_n 0, 1) := by decide +kernel
theorem dX9_forms_31 : decode cX9_forms 31 = .ok (.getfield 72, 3) := by decide +kernel
theorem dX9_forms_34 : decode cX9_forms 34 = .ok (.iload_n 2, 1) := by decide +kernel
theorem dX9_forms_35 : decode cX9_forms 35 = .ok (.aload_n 0, 1) := by decide +kernel
theorem dX9_forms_36 : decode cX9_forms 36 = .ok (.getfield 72, 3) := by decide +kernel
theorem dX9_forms_39 : decode cX9_forms 39 = .ok (.iload_n 3, 1) := by decide +kernel
theorem dX9_forms_40 : decode cX9_forms 40 = .ok (.invokevirtual 245, 3) := by decide +kernel
theorem dX9_forms_43 : decode cX9_forms 43 = .ok (.istore 4, 2) := by decide +kernel
theorem dX9_forms_45 : decode cX9_forms 45 = .ok (.aload_n 0, 1) := by decide +kernel
theorem dX9_forms_46 : decode cX9_forms 46 = .ok (.getfield 90, 3) := by decide +kernel
theorem dX9_forms_49 : decode cX9_forms 49 = .ok (.sipush 256, 3) := by decide +kernel
theorem dX9_forms_52 : decode cX9_forms 52 = .ok (.iload_n 1, 1) := by decide +kernel
theorem dX9_forms_53 : decode cX9_forms 53 = .ok (.imul, 1) := by decide +kernel
theorem dX9_forms_54 : decode cX9_forms 54 = .ok (.bipush 16, 2) := by decide +kernel
theorem dX9_forms_56 : decode cX9_forms 56 = .ok (.iload_n 2, 1) := by decide +kernel
theorem dX9_forms_57 : decode cX9_forms 57 = .ok (.imul, 1) := by decide +kernel
theorem dX9_forms_58 : decode cX9_forms 58 = .ok (.iadd, 1) := by decide +kernel
theorem dX9_forms_59 : decode cX9_forms 59 = .ok (.iload_n 3, 1) := by decide +kernel
theorem dX9_forms_60 : decode cX9_forms 60 = .ok (.iadd, 1) := by decide +kernel
theorem dX9_forms_61 : decode cX9_forms 61 = .ok (.iload 4, 2) := by decide +kernel
theorem dX9_forms_63 : decode cX9_forms 63 = .ok (.iastore, 1) := by decide +kernel
theorem dX9_forms_64 : decode cX9_forms 64 = .ok (.aload_n 0, 1) := by decide +kernel
theorem dX9_forms_65 : decode cX9_forms 65 = .ok (.getfield 87, 3) := by decide +kernel
theorem dX9_forms_68 : decode cX9_forms 68 = .ok (.bipush 16, 2) := by decide +kernel
theorem dX9_forms_70 : decode cX9_forms 70 = .ok (.iload_n 2, 1) := by decide +kernel
theorem dX9_forms_71 : decode cX9_forms 71 = .ok (.imul, 1) := by decide +kernel
theorem dX9_forms_72 : decode cX9_forms 72 = .ok (.iload_n 3, 1) := by decide +kernel
theorem dX9_forms_73 : decode cX9_forms 73 = .ok (.iadd, 1) := by decide +kernel
theorem dX9_forms_74 : decode cX9_forms 74 = .ok (.iload 4, 2) := by decide +kernel
theorem dX9_forms_76 : decode cX9_forms 76 = .ok (.aload_n 0, 1) := by decide +kernel
theorem dX9_forms_77 : decode cX9_forms 77 = .ok (.getfield 184, 3) := by decide +kernel
theorem dX9_forms_80 : decode cX9_forms 80 = .ok (.irem, 1) := by decide +kernel
theorem dX9_forms_81 : decode cX9_forms 81 = .ok (.aload_n 0, 1) := by decide +kernel
theorem dX9_forms_82 : decode cX9_forms 82 = .ok (.getfield 184, 3) := by decide +kernel
theorem dX9_forms_85 : decode cX9_forms 85 = .ok (.iadd, 1) := by decide +kernel
theorem dX9_forms_86 : decode cX9_forms 86 = .ok (.aload_n 0, 1) := by decide +kernel
theorem dX9_forms_87 : decode cX9_forms 87 = .ok (.getfield 184, 3) := by decide +kernel
theorem dX9_forms_90 : decode cX9_forms 90 = .ok (.irem, 1) := by decide +kernel
theorem dX9_forms_91 : decode cX9_forms 91 = .ok (.iastore, 1) := by decide +kernel
theorem dX9_forms_92 : decode cX9_forms 92 = .ok (.iinc 3 1, 3) := by decide +kernel
theorem dX9_forms_95 : decode cX9_forms 95 = .ok (.goto (-76), 3) := by decide +kernel
theorem dX9_forms_98 : decode cX9_forms 98 = .ok (.iinc 2 1, 3) := by decide +kernel
theorem dX9_forms_101 : decode cX9_forms 101 = .ok (.goto (-94), 3) := by decide +kernel
theorem dX9_forms_104 : decode cX9_forms 104 = .ok (.aload_n 0, 1) := by decide +kernel
theorem dX9_forms_105 : decode cX9_forms 105 = .ok (.getfield 93, 3) := by decide +kernel
theorem dX9_forms_108 : decode cX9_forms 108 = .ok (.iload_n 1, 1) := by decide +kernel
theorem dX9_forms_109 : decode cX9_forms 109 = .ok (.aload_n 0, 1) := by decide +kernel
theorem dX9_forms_110 : decode cX9_forms 110 = .ok (.aload_n 0, 1) := by decide +kernel
theorem dX9_forms_111 : decode cX9_forms 111 = .ok (.getfield 56, 3) := by decide +kernel
theorem dX9_forms_114 : decode cX9_forms 114 = .ok (.iload_n 1, 1) := by decide +kernel
theorem dX9_forms_115 : decode cX9_forms 115 = .ok (.iaload, 1) := by decide +kernel
theorem dX9_forms_116 : decode cX9_forms 116 = .ok (.invokevirtual 249, 3) := by decide +kernel
theorem dX9_forms_119 : decode cX9_forms 119 = .ok (.iastore, 1) := by decide +kernel
theorem dX9_forms_120 : decode cX9_forms 120 = .ok (.return_, 1) := by decide +kernel
theorem dX9_moves_0 : decode cX9_moves 0 = .ok (.iconst 1, 1) := by decide +kernel
theorem dX9_moves_1 : decode cX9_moves 1 = .ok (.istore_n 3, 1) := by decide +kernel
theorem dX9_moves_2 : decode cX9_moves 2 = .ok (.iconst 0, 1) := by decide +kernel
theorem dX9_moves_3 : decode cX9_moves 3 = .ok (.istore 4, 2) := by decide +kernel
theorem dX9_moves_5 : decode cX9_moves 5 = .ok (.iload 4, 2) := by decide +kernel
theorem dX9_moves_7 : decode cX9_moves 7 = .ok (.aload_n 0, 1) := by decide +kernel
theorem dX9_moves_8 : decode cX9_moves 8 = .ok (.getfield 13, 3) := by decide +kernel
theorem dX9_moves_11 : decode cX9_moves 11 = .ok (.iload_n 1, 1) := by decide +kernel
theorem dX9_moves_12 : decode cX9_moves 12 = .ok (.iaload, 1) := by decide +kernel
theorem dX9_moves_13 : decode cX9_moves 13 = .ok (.if_icmp .ge 57, 3) := by decide +kernel
theorem dX9_moves_16 : decode cX9_moves 16 = .ok (.aload_n 0, 1) := by decide +kernel
theorem dX9_moves_17 : decode cX9_moves 17 = .ok (.iload_n 1, 1) := by decide +kernel
theorem dX9_moves_18 : decode cX9_moves 18 = .ok (.iload 4, 2) := by decide +kernel
theorem dX9_moves_20 : decode cX9_moves 20 = .ok (.invokevirtual 175, 3) := by decide +kernel
theorem dX9_moves_23 : decode cX9_moves 23 = .ok (.istore 5, 2) := by decide +kernel
theorem dX9_moves_25 : decode cX9_moves 25 = .ok (.iconst 0, 1) := by decide +kernel
theorem dX9_moves_26 : decode cX9_moves 26 = .ok (.istore 6, 2) := by decide +kernel
theorem dX9_moves_28 : decode cX9_moves 28 = .ok (.iload 6, 2) := by decide +kernel
theorem dX9_moves_30 : decode cX9_moves 30 = .ok (.iload 5, 2) := by decide +kernel
theorem dX9_moves_32 : decode cX9_moves 32 = .ok (.if_icmp .ge 27, 3) := by decide +kernel
theorem dX9_moves_35 : decode cX9_moves 35 = .ok (.aload_n 0, 1) := by decide +kernel
theorem dX9_moves_36 : decode cX9_moves 36 = .ok (.getfield 84, 3) := by decide +kernel
theorem dX9_moves_39 : decode cX9_moves 39 = .ok (.iload_n 3, 1) := by decide +kernel
theorem dX9_moves_40 : decode cX9_moves 40 = .ok (.iload 6, 2) := by decide +kernel
theorem dX9_moves_42 : decode cX9_moves 42 = .ok (.iadd, 1) := by decide +kernel
theorem dX9_moves_43 : decode cX9_moves 43 = .ok (.iload_n 3, 1) := by decide +kernel
theorem dX9_moves_44 : decode cX9_moves 44 = .ok (.iload 6, 2) := by decide +kernel
theorem dX9_moves_46 : decode cX9_moves 46 = .ok (.iload_n 2, 1) := by decide +kernel
theorem dX9_moves_47 : decode cX9_moves 47 = .ok (.iadd, 1) := by decide +kernel
theorem dX9_moves_48 : decode cX9_moves 48 = .ok (.iload 5, 2) := by decide +kernel
theorem dX9_moves_50 : decode cX9_moves 50 = .ok (.irem, 1) := by decide +kernel
theorem dX9_moves_51 : decode cX9_moves 51 = .ok (.iadd, 1) := by decide +kernel
theorem dX9_moves_52 : decode cX9_moves 52 = .ok (.iastore, 1) := by decide +kernel
theorem dX9_moves_53 : decode cX9_moves 53 = .ok (.iinc 6 1, 3) := by decide +kernel
theorem dX9_moves_56 : decode cX9_moves 56 = .ok (.goto (-28), 3) := by decide +kernel
theorem dX9_moves_59 : decode cX9_moves 59 = .ok (.iload_n 3, 1) := by decide +kernel
theorem dX9_moves_60 : decode cX9_moves 60 = .ok (.iload 5, 2) := by decide +kernel
theorem dX9_moves_62 : decode cX9_moves 62 = .ok (.iadd, 1) := by decide +kernel
theorem dX9_moves_63 : decode cX9_moves 63 = .ok (.istore_n 3, 1) := by decide +kernel
theorem dX9_moves_64 : decode cX9_moves 64 = .ok (.iinc 4 1, 3) := by decide +kernel
theorem dX9_moves_67 : decode cX9_moves 67 = .ok (.goto (-62), 3) := by decide +kernel
theorem dX9_moves_70 : decode cX9_moves 70 = .ok (.return_, 1) := by decide +kernel
theorem dX9_fixed_0 : decode cX9_fixed 0 = .ok (.aload_n 0, 1) := by decide +kernel
theorem dX9_fixed_1 : decode cX9_fixed 1 = .ok (.iload_n 1, 1) := by decide +kernel
theorem dX9_fixed_2 : decode cX9_fixed 2 = .ok (.iload_n 2, 1) := by decide +kernel
theorem dX9_fixed_3 : decode cX9_fixed 3 = .ok (.invokevirtual 252, 3) := by decide +kernel
theorem dX9_fixed_6 : decode cX9_fixed 6 = .ok (.aload_n 0, 1) := by decide +kernel
theorem dX9_fixed_7 : decode cX9_fixed 7 = .ok (.aload_n 0, 1) := by decide +kernel
theorem dX9_fixed_8 : decode cX9_fixed 8 = .ok (.getfield 75, 3) := by decide +kernel
theorem dX9_fixed_11 : decode cX9_fixed 11 = .ok (.invokevirtual 234, 3) := by decide +kernel
theorem dX9_fixed_14 : decode cX9_fixed 14 = .ok (.iconst 0, 1) := by decide +kernel
theorem dX9_fixed_15 : decode cX9_fixed 15 = .ok (.istore_n 3, 1) := by decide +kernel
theorem dX9_fixed_16 : decode cX9_fixed 16 = .ok (.iload_n 3, 1) := by decide +kernel
theorem dX9_fixed_17 : decode cX9_fixed 17 = .ok (.aload_n 0, 1) := by decide +kernel
theorem dX9_fixed_18 : decode cX9_fixed 18 = .ok (.getfield 56, 3) := by decide +kernel
theorem dX9_fixed_21 : decode cX9_fixed 21 = .ok (.aload_n 0, 1) := by decide +kernel
theorem dX9_fixed_22 : decode cX9_fixed 22 = .ok (.getfield 205, 3) := by decide +kernel
theorem dX9_fixed_25 : decode cX9_fixed 25 = .ok (.iaload, 1) := by decide +kernel
theorem dX9_fixed_26 : decode cX9_fixed 26 = .ok (.if_icmp .ge 100, 3) := by decide +kernel
theorem dX9_fixed_29 : decode cX9_fixed 29 = .ok (.iconst 0, 1) := by decide +kernel
theorem dX9_fixed_30 : decode cX9_fixed 30 = .ok (.istore 4, 2) := by decide +kernel
theorem dX9_fixed_32 : decode cX9_fixed 32 = .ok (.iload 4, 2) := by decide +kernel
theorem dX9_fixed_34 : decode cX9_fixed 34 = .ok (.aload_n 0, 1) := by decide +kernel
theorem dX9_fixed_35 : decode cX9_fixed 35 = .ok (.getfield 56, 3) := by decide +kernel
theorem dX9_fixed_38 : decode cX9_fixed 38 = .ok (.aload_n 0, 1) := by decide +kernel
theorem dX9_fixed_39 : decode cX9_fixed 39 = .ok (.getfield 205, 3) := by decide +kernel
theorem dX9_fixed_42 : decode cX9_fixed 42 = .ok (.iaload, 1) := by decide +kernel
theorem dX9_fixed_43 : decode cX9_fixed 43 = .ok (.if_icmp .ge 77, 3) := by decide +kernel
theorem dX9_fixed_46 : decode cX9_fixed 46 = .ok (.aload_n 0, 1) := by decide +kernel
theorem dX9_fixed_47 : decode cX9_fixed 47 = .ok (.aload_n 0, 1) := by decide +kernel
theorem dX9_fixed_48 : decode cX9_fixed 48 = .ok (.getfield 72, 3) := by decide +kernel
theorem dX9_fixed_51 : decode cX9_fixed 51 = .ok (.iload_n 3, 1) := by decide +kernel
theorem dX9_fixed_52 : decode cX9_fixed 52 = .ok (.aload_n 0, 1) := by decide +kernel
theorem dX9_fixed_53 : decode cX9_fixed 53 = .ok (.getfield 75, 3) := by decide +kernel
theorem dX9_fixed_56 : decode cX9_fixed 56 = .ok (.iload 4, 2) := by decide +kernel
theorem dX9_fixed_58 : decode cX9_fixed 58 = .ok (.invokevirtual 245, 3) := by decide +kernel
theorem dX9_fixed_61 : decode cX9_fixed 61 = .ok (.aload_n 0, 1) := by decide +kernel
theorem dX9_fixed_62 : decode cX9_fixed 62 = .ok (.getfield 90, 3) := by decide +kernel
theorem dX9_fixed_65 : decode cX9_fixed 65 = .ok (.sipush 256, 3) := by decide +kernel
theorem dX9_fixed_68 : decode cX9_fixed 68 = .ok (.aload_n 0, 1) := by decide +kernel
theorem dX9_fixed_69 : decode cX9_fixed 69 = .ok (.getfield 205, 3) := by decide +kernel
theorem dX9_fixed_72 : decode cX9_fixed 72 = .ok (.imul, 1) := by decide +kernel
theorem dX9_fixed_73 : decode cX9_fixed 73 = .ok (.bipush 16, 2) := by decide +kernel
theorem dX9_fixed_75 : decode cX9_fixed 75 = .ok (.iload_n 3, 1) := by decide +kernel
theorem dX9_fixed_76 : decode cX9_fixed 76 = .ok (.imul, 1) := by decide +kernel
theorem dX9_fixed_77 : decode cX9_fixed 77 = .ok (.iadd, 1) := by decide +kernel
theorem dX9_fixed_78 : decode cX9_fixed 78 = .ok (.iload 4, 2) := by decide +kernel
theorem dX9_fixed_80 : decode cX9_fixed 80 = .ok (.iadd, 1) := by decide +kernel
theorem dX9_fixed_81 : decode cX9_fixed 81 = .ok (.iaload, 1) := by decide +kernel
theorem dX9_fixed_82 : decode cX9_fixed 82 = .ok (.isub, 1) := by decide +kernel
theorem dX9_fixed_83 : decode cX9_fixed 83 = .ok (.istore 5, 2) := by decide +kernel
theorem dX9_fixed_85 : decode cX9_fixed 85 = .ok (.aload_n 0, 1) := by decide +kernel
theorem dX9_fixed_86 : decode cX9_fixed 86 = .ok (.getfield 87, 3) := by decide +kernel
theorem dX9_fixed_89 : decode cX9_fixed 89 = .ok (.bipush 16, 2) := by decide +kernel
theorem dX9_fixed_91 : decode cX9_fixed 91 = .ok (.iload_n 3, 1) := by decide +kernel
theorem dX9_fixed_92 : decode cX9_fixed 92 = .ok (.imul, 1) := by decide +kernel
theorem dX9_fixed_93 : decode cX9_fixed 93 = .ok (.iload 4, 2) := by decide +kernel
theorem dX9_fixed_95 : decode cX9_fixed 95 = .ok (.iadd, 1) := by decide +kernel
theorem dX9_fixed_96 : decode cX9_fixed 96 = .ok (.iload 5, 2) := by decide +kernel
theorem dX9_fixed_98 : decode cX9_fixed 98 = .ok (.aload_n 0, 1) := by decide +kernel
theorem dX9_fixed_99 : decode cX9_fixed 99 = .ok (.getfield 184, 3) := by decide +kernel
theorem dX9_fixed_102 : decode cX9_fixed 102 = .ok (.irem, 1) := by decide +kernel
theorem dX9_fixed_103 : decode cX9_fixed 103 = .ok (.aload_n 0, 1) := by decide +kernel
theorem dX9_fixed_104 : decode cX9_fixed 104 = .ok (.getfield 184, 3) := by decide +kernel
theorem dX9_fixed_107 : decode cX9_fixed 107 = .ok (.iadd, 1) := by decide +kernel
theorem dX9_fixed_108 : decode cX9_fixed 108 = .ok (.aload_n 0, 1) := by decide +kernel
theorem dX9_fixed_109 : decode cX9_fixed 109 = .ok (.getfield 184, 3) := by decide +kernel
theorem dX9_fixed_112 : decode cX9_fixed 112 = .ok (.irem, 1) := by decide +kernel
theorem dX9_fixed_113 : decode cX9_fixed 113 = .ok (.iastore, 1) := by decide +kernel
theorem dX9_fixed_114 : decode cX9_fixed 114 = .ok (.iinc 4 1, 3) := by decide +kernel
theorem dX9_fixed_117 : decode cX9_fixed 117 = .ok (.goto (-85), 3) := by decide +kernel
theorem dX9_fixed_120 : decode cX9_fixed 120 = .ok (.iinc 3 1, 3) := by decide +kernel
theorem dX9_fixed_123 : decode cX9_fixed 123 = .ok (.goto (-107), 3) := by decide +kernel
theorem dX9_fixed_126 : decode cX9_fixed 126 = .ok (.aload_n 0, 1) := by decide +kernel
theorem dX9_fixed_127 : decode cX9_fixed 127 = .ok (.getfield 93, 3) := by decide +kernel
theorem dX9_fixed_130 : decode cX9_fixed 130 = .ok (.aload_n 0, 1) := by decide +kernel
theorem dX9_fixed_131 : decode cX9_fixed 131 = .ok (.getfield 205, 3) := by decide +kernel
theorem dX9_fixed_134 : decode cX9_fixed 134 = .ok (.iaload, 1) := by decide +kernel
theorem dX9_fixed_135 : decode cX9_fixed 135 = .ok (.aload_n 0, 1) := by decide +kernel
theorem dX9_fixed_136 : decode cX9_fixed 136 = .ok (.aload_n 0, 1) := by decide +kernel
theorem dX9_fixed_137 : decode cX9_fixed 137 = .ok (.getfield 56, 3) := by decide +kernel
theorem dX9_fixed_140 : decode cX9_fixed 140 = .ok (.aload_n 0, 1) := by decide +kernel
theorem dX9_fixed_141 : decode cX9_fixed 141 = .ok (.getfield 205, 3) := by decide +kernel
theorem dX9_fixed_144 : decode cX9_fixed 144 = .ok (.iaload, 1) := by decide +kernel
theorem dX9_fixed_145 : decode cX9_fixed 145 = .ok (.invokevirtual 249, 3) := by decide +kernel
theorem dX9_fixed_148 : decode cX9_fixed 148 = .ok (.isub, 1) := by decide +kernel
theorem dX9_fixed_149 : decode cX9_fixed 149 = .ok (.ireturn, 1) := by decide +kernel
theorem dX9_mobius_0 : decode cX9_mobius 0 = .ok (.iload_n 0, 1) := by decide +kernel
theorem dX9_mobius_1 : decode cX9_mobius 1 = .ok (.iconst 1, 1) := by decide +kernel
theorem dX9_mobius_2 : decode cX9_mobius 2 = .ok (.if_icmp .eq 9, 3) := by decide +kernel
theorem dX9_mobius_5 : decode cX9_mobius 5 = .ok (.iload_n 0, 1) := by decide +kernel
theorem dX9_mobius_6 : decode cX9_mobius 6 = .ok (.bipush 6, 2) := by decide +kernel
theorem dX9_mobius_8 : decode cX9_mobius 8 = .ok (.if_icmp .ne 7, 3) := by decide +kernel
theorem dX9_mobius_11 : decode cX9_mobius 11 = .ok (.iconst 1, 1) := by decide +kernel
theorem dX9_mobius_12 : decode cX9_mobius 12 = .ok (.goto 13, 3) := by decide +kernel
theorem dX9_mobius_15 : decode cX9_mobius 15 = .ok (.iload_n 0, 1) := by decide +kernel
theorem dX9_mobius_16 : decode cX9_mobius 16 = .ok (.iconst 4, 1) := by decide +kernel
theorem dX9_mobius_17 : decode cX9_mobius 17 = .ok (.if_icmp .ne 7, 3) := by decide +kernel
theorem dX9_mobius_20 : decode cX9_mobius 20 = .ok (.iconst 0, 1) := by decide +kernel
theorem dX9_mobius_21 : decode cX9_mobius 21 = .ok (.goto 4, 3) := by decide +kernel
theorem dX9_mobius_24 : decode cX9_mobius 24 = .ok (.iconst (-1), 1) := by decide +kernel
theorem dX9_mobius_25 : decode cX9_mobius 25 = .ok (.ireturn, 1) := by decide +kernel
theorem dX9_units_0 : decode cX9_units 0 = .ok (.iload_n 0, 1) := by decide +kernel
theorem dX9_units_1 : decode cX9_units 1 = .ok (.iconst 3, 1) := by decide +kernel
theorem dX9_units_2 : decode cX9_units 2 = .ok (.if_icmp .ge 7, 3) := by decide +kernel
theorem dX9_units_5 : decode cX9_units 5 = .ok (.iconst 1, 1) := by decide +kernel
theorem dX9_units_6 : decode cX9_units 6 = .ok (.goto 13, 3) := by decide +kernel
theorem dX9_units_9 : decode cX9_units 9 = .ok (.iload_n 0, 1) := by decide +kernel
theorem dX9_units_10 : decode cX9_units 10 = .ok (.iconst 5, 1) := by decide +kernel
theorem dX9_units_11 : decode cX9_units 11 = .ok (.if_icmp .ne 7, 3) := by decide +kernel
theorem dX9_units_14 : decode cX9_units 14 = .ok (.iconst 4, 1) := by decide +kernel
theorem dX9_units_15 : decode cX9_units 15 = .ok (.goto 4, 3) := by decide +kernel
theorem dX9_units_18 : decode cX9_units 18 = .ok (.iconst 2, 1) := by decide +kernel
theorem dX9_units_19 : decode cX9_units 19 = .ok (.ireturn, 1) := by decide +kernel
theorem dX9_modularOf_0 : decode cX9_modularOf 0 = .ok (.iconst 0, 1) := by decide +kernel
theorem dX9_modularOf_1 : decode cX9_modularOf 1 = .ok (.istore_n 2, 1) := by decide +kernel
theorem dX9_modularOf_2 : decode cX9_modularOf 2 = .ok (.iconst 1, 1) := by decide +kernel
theorem dX9_modularOf_3 : decode cX9_modularOf 3 = .ok (.istore_n 3, 1) := by decide +kernel
theorem dX9_modularOf_4 : decode cX9_modularOf 4 = .ok (.iload_n 3, 1) := by decide +kernel
theorem dX9_modularOf_5 : decode cX9_modularOf 5 = .ok (.aload_n 0, 1) := by decide +kernel
theorem dX9_modularOf_6 : decode cX9_modularOf 6 = .ok (.getfield 19, 3) := by decide +kernel
theorem dX9_modularOf_9 : decode cX9_modularOf 9 = .ok (.iload_n 1, 1) := by decide +kernel
theorem dX9_modularOf_10 : decode cX9_modularOf 10 = .ok (.iaload, 1) := by decide +kernel
theorem dX9_modularOf_11 : decode cX9_modularOf 11 = .ok (.if_icmp .gt 83, 3) := by decide +kernel
theorem dX9_modularOf_14 : decode cX9_modularOf 14 = .ok (.aload_n 0, 1) := by decide +kernel
theorem dX9_modularOf_15 : decode cX9_modularOf 15 = .ok (.getfield 19, 3) := by decide +kernel
theorem dX9_modularOf_18 : decode cX9_modularOf 18 = .ok (.iload_n 1, 1) := by decide +kernel
theorem dX9_modularOf_19 : decode cX9_modularOf 19 = .ok (.iaload, 1) := by decide +kernel
theorem dX9_modularOf_20 : decode cX9_modularOf 20 = .ok (.iload_n 3, 1) := by decide +kernel
theorem dX9_modularOf_21 : decode cX9_modularOf 21 = .ok (.irem, 1) := by decide +kernel
theorem dX9_modularOf_22 : decode cX9_modularOf 22 = .ok (.ifCond .eq 6, 3) := by decide +kernel
theorem dX9_modularOf_25 : decode cX9_modularOf 25 = .ok (.goto 63, 3) := by decide +kernel
theorem dX9_modularOf_28 : decode cX9_modularOf 28 = .ok (.iconst 0, 1) := by decide +kernel
theorem dX9_modularOf_29 : decode cX9_modularOf 29 = .ok (.istore 4, 2) := by decide +kernel
theorem dX9_modularOf_31 : decode cX9_modularOf 31 = .ok (.iconst 1, 1) := by decide +kernel
theorem dX9_modularOf_32 : decode cX9_modularOf 32 = .ok (.istore 5, 2) := by decide +kernel
theorem dX9_modularOf_34 : decode cX9_modularOf 34 = .ok (.iload 5, 2) := by decide +kernel
theorem dX9_modularOf_36 : decode cX9_modularOf 36 = .ok (.iload_n 3, 1) := by decide +kernel
theorem dX9_modularOf_37 : decode cX9_modularOf 37 = .ok (.if_icmp .gt 36, 3) := by decide +kernel
theorem dX9_modularOf_40 : decode cX9_modularOf 40 = .ok (.iload_n 3, 1) := by decide +kernel
theorem dX9_modularOf_41 : decode cX9_modularOf 41 = .ok (.iload 5, 2) := by decide +kernel
theorem dX9_modularOf_43 : decode cX9_modularOf 43 = .ok (.irem, 1) := by decide +kernel
theorem dX9_modularOf_44 : decode cX9_modularOf 44 = .ok (.ifCond .ne 23, 3) := by decide +kernel
theorem dX9_modularOf_47 : decode cX9_modularOf 47 = .ok (.iload 4, 2) := by decide +kernel
theorem dX9_modularOf_49 : decode cX9_modularOf 49 = .ok (.iload_n 3, 1) := by decide +kernel
theorem dX9_modularOf_50 : decode cX9_modularOf 50 = .ok (.iload 5, 2) := by decide +kernel
theorem dX9_modularOf_52 : decode cX9_modularOf 52 = .ok (.idiv, 1) := by decide +kernel
theorem dX9_modularOf_53 : decode cX9_modularOf 53 = .ok (.invokestatic 255, 3) := by decide +kernel
theorem dX9_modularOf_56 : decode cX9_modularOf 56 = .ok (.aload_n 0, 1) := by decide +kernel
theorem dX9_modularOf_57 : decode cX9_modularOf 57 = .ok (.iload_n 1, 1) := by decide +kernel
theorem dX9_modularOf_58 : decode cX9_modularOf 58 = .ok (.iload 5, 2) := by decide +kernel
theorem dX9_modularOf_60 : decode cX9_modularOf 60 = .ok (.invokevirtual 258, 3) := by decide +kernel
theorem dX9_modularOf_63 : decode cX9_modularOf 63 = .ok (.imul, 1) := by decide +kernel
theorem dX9_modularOf_64 : decode cX9_modularOf 64 = .ok (.iadd, 1) := by decide +kernel
theorem dX9_modularOf_65 : decode cX9_modularOf 65 = .ok (.istore 4, 2) := by decide +kernel
theorem dX9_modularOf_67 : decode cX9_modularOf 67 = .ok (.iinc 5 1, 3) := by decide +kernel
theorem dX9_modularOf_70 : decode cX9_modularOf 70 = .ok (.goto (-36), 3) := by decide +kernel
theorem dX9_modularOf_73 : decode cX9_modularOf 73 = .ok (.iload_n 2, 1) := by decide +kernel
theorem dX9_modularOf_74 : decode cX9_modularOf 74 = .ok (.iload 4, 2) := by decide +kernel
theorem dX9_modularOf_76 : decode cX9_modularOf 76 = .ok (.iload_n 3, 1) := by decide +kernel
theorem dX9_modularOf_77 : decode cX9_modularOf 77 = .ok (.invokestatic 261, 3) := by decide +kernel
theorem dX9_modularOf_80 : decode cX9_modularOf 80 = .ok (.idiv, 1) := by decide +kernel
theorem dX9_modularOf_81 : decode cX9_modularOf 81 = .ok (.iload_n 3, 1) := by decide +kernel
theorem dX9_modularOf_82 : decode cX9_modularOf 82 = .ok (.invokestatic 255, 3) := by decide +kernel
theorem dX9_modularOf_85 : decode cX9_modularOf 85 = .ok (.imul, 1) := by decide +kernel
theorem dX9_modularOf_86 : decode cX9_modularOf 86 = .ok (.iadd, 1) := by decide +kernel
theorem dX9_modularOf_87 : decode cX9_modularOf 87 = .ok (.istore_n 2, 1) := by decide +kernel
theorem dX9_modularOf_88 : decode cX9_modularOf 88 = .ok (.iinc 3 1, 3) := by decide +kernel
theorem dX9_modularOf_91 : decode cX9_modularOf 91 = .ok (.goto (-87), 3) := by decide +kernel
theorem dX9_modularOf_94 : decode cX9_modularOf 94 = .ok (.iload_n 2, 1) := by decide +kernel
theorem dX9_modularOf_95 : decode cX9_modularOf 95 = .ok (.ireturn, 1) := by decide +kernel
theorem dX9_decomposes_0 : decode cX9_decomposes 0 = .ok (.iconst 0, 1) := by decide +kernel
theorem dX9_decomposes_1 : decode cX9_decomposes 1 = .ok (.istore_n 1, 1) := by decide +kernel
theorem dX9_decomposes_2 : decode cX9_decomposes 2 = .ok (.iconst 0, 1) := by decide +kernel
theorem dX9_decomposes_3 : decode cX9_decomposes 3 = .ok (.istore_n 2, 1) := by decide +kernel
theorem dX9_decomposes_4 : decode cX9_decomposes 4 = .ok (.iload_n 2, 1) := by decide +kernel
theorem dX9_decomposes_5 : decode cX9_decomposes 5 = .ok (.aload_n 0, 1) := by decide +kernel
theorem dX9_decomposes_6 : decode cX9_decomposes 6 = .ok (.getfield 153, 3) := by decide +kernel
theorem dX9_decomposes_9 : decode cX9_decomposes 9 = .ok (.if_icmp .ge 125, 3) := by decide +kernel
theorem dX9_decomposes_12 : decode cX9_decomposes 12 = .ok (.aload_n 0, 1) := by decide +kernel
theorem dX9_decomposes_13 : decode cX9_decomposes 13 = .ok (.getfield 26, 3) := by decide +kernel
theorem dX9_decomposes_16 : decode cX9_decomposes 16 = .ok (.iload_n 2, 1) := by decide +kernel
theorem dX9_decomposes_17 : decode cX9_decomposes 17 = .ok (.baload, 1) := by decide +kernel
theorem dX9_decomposes_18 : decode cX9_decomposes 18 = .ok (.ifCond .ne 6, 3) := by decide +kernel
theorem dX9_decomposes_21 : decode cX9_decomposes 21 = .ok (.goto 107, 3) := by decide +kernel
theorem dX9_decomposes_24 : decode cX9_decomposes 24 = .ok (.iconst 0, 1) := by decide +kernel
theorem dX9_decomposes_25 : decode cX9_decomposes 25 = .ok (.istore_n 3, 1) := by decide +kernel
theorem dX9_decomposes_26 : decode cX9_decomposes 26 = .ok (.iload_n 3, 1) := by decide +kernel
theorem dX9_decomposes_27 : decode cX9_decomposes 27 = .ok (.aload_n 0, 1) := by decide +kernel
theorem dX9_decomposes_28 : decode cX9_decomposes 28 = .ok (.getfield 153, 3) := by decide +kernel
theorem dX9_decomposes_31 : decode cX9_decomposes 31 = .ok (.if_icmp .ge 94, 3) := by decide +kernel
theorem dX9_decomposes_34 : decode cX9_decomposes 34 = .ok (.aload_n 0, 1) := by decide +kernel
theorem dX9_decomposes_35 : decode cX9_decomposes 35 = .ok (.getfield 22, 3) := by decide +kernel
theorem dX9_decomposes_38 : decode cX9_decomposes 38 = .ok (.iload_n 3, 1) := by decide +kernel
theorem dX9_decomposes_39 : decode cX9_decomposes 39 = .ok (.baload, 1) := by decide +kernel
theorem dX9_decomposes_40 : decode cX9_decomposes 40 = .ok (.ifCond .eq 42, 3) := by decide +kernel
theorem dX9_decomposes_43 : decode cX9_decomposes 43 = .ok (.aload_n 0, 1) := by decide +kernel
theorem dX9_decomposes_44 : decode cX9_decomposes 44 = .ok (.getfield 102, 3) := by decide +kernel
theorem dX9_decomposes_47 : decode cX9_decomposes 47 = .ok (.bipush 22, 2) := by decide +kernel
theorem dX9_decomposes_49 : decode cX9_decomposes 49 = .ok (.iload_n 1, 1) := by decide +kernel
theorem dX9_decomposes_50 : decode cX9_decomposes 50 = .ok (.imul, 1) := by decide +kernel
theorem dX9_decomposes_51 : decode cX9_decomposes 51 = .ok (.aload_n 0, 1) := by decide +kernel
theorem dX9_decomposes_52 : decode cX9_decomposes 52 = .ok (.getfield 32, 3) := by decide +kernel
theorem dX9_decomposes_55 : decode cX9_decomposes 55 = .ok (.iload_n 3, 1) := by decide +kernel
theorem dX9_decomposes_56 : decode cX9_decomposes 56 = .ok (.iaload, 1) := by decide +kernel
theorem dX9_decomposes_57 : decode cX9_decomposes 57 = .ok (.iadd, 1) := by decide +kernel
theorem dX9_decomposes_58 : decode cX9_decomposes 58 = .ok (.aload_n 0, 1) := by decide +kernel
theorem dX9_decomposes_59 : decode cX9_decomposes 59 = .ok (.getfield 96, 3) := by decide +kernel
theorem dX9_decomposes_62 : decode cX9_decomposes 62 = .ok (.bipush 11, 2) := by decide +kernel
theorem dX9_decomposes_64 : decode cX9_decomposes 64 = .ok (.iload_n 3, 1) := by decide +kernel
theorem dX9_decomposes_65 : decode cX9_decomposes 65 = .ok (.imul, 1) := by decide +kernel
theorem dX9_decomposes_66 : decode cX9_decomposes 66 = .ok (.iload_n 2, 1) := by decide +kernel
theorem dX9_decomposes_67 : decode cX9_decomposes 67 = .ok (.iadd, 1) := by decide +kernel
theorem dX9_decomposes_68 : decode cX9_decomposes 68 = .ok (.iaload, 1) := by decide +kernel
theorem dX9_decomposes_69 : decode cX9_decomposes 69 = .ok (.sipush 32003, 3) := by decide +kernel
theorem dX9_decomposes_72 : decode cX9_decomposes 72 = .ok (.irem, 1) := by decide +kernel
theorem dX9_decomposes_73 : decode cX9_decomposes 73 = .ok (.sipush 32003, 3) := by decide +kernel
theorem dX9_decomposes_76 : decode cX9_decomposes 76 = .ok (.iadd, 1) := by decide +kernel
theorem dX9_decomposes_77 : decode cX9_decomposes 77 = .ok (.sipush 32003, 3) := by decide +kernel
theorem dX9_decomposes_80 : decode cX9_decomposes 80 = .ok (.irem, 1) := by decide +kernel
theorem dX9_decomposes_81 : decode cX9_decomposes 81 = .ok (.iastore, 1) := by decide +kernel
theorem dX9_decomposes_82 : decode cX9_decomposes 82 = .ok (.aload_n 0, 1) := by decide +kernel
theorem dX9_decomposes_83 : decode cX9_decomposes 83 = .ok (.getfield 102, 3) := by decide +kernel
theorem dX9_decomposes_86 : decode cX9_decomposes 86 = .ok (.bipush 22, 2) := by decide +kernel
theorem dX9_decomposes_88 : decode cX9_decomposes 88 = .ok (.iload_n 1, 1) := by decide +kernel
theorem dX9_decomposes_89 : decode cX9_decomposes 89 = .ok (.imul, 1) := by decide +kernel
theorem dX9_decomposes_90 : decode cX9_decomposes 90 = .ok (.bipush 11, 2) := by decide +kernel
theorem dX9_decomposes_92 : decode cX9_decomposes 92 = .ok (.iadd, 1) := by decide +kernel
theorem dX9_decomposes_93 : decode cX9_decomposes 93 = .ok (.iload_n 3, 1) := by decide +kernel
theorem dX9_decomposes_94 : decode cX9_decomposes 94 = .ok (.iadd, 1) := by decide +kernel
theorem dX9_decomposes_95 : decode cX9_decomposes 95 = .ok (.aload_n 0, 1) := by decide +kernel
theorem dX9_decomposes_96 : decode cX9_decomposes 96 = .ok (.getfield 38, 3) := by decide +kernel
theorem dX9_decomposes_99 : decode cX9_decomposes 99 = .ok (.bipush 11, 2) := by decide +kernel
theorem dX9_decomposes_101 : decode cX9_decomposes 101 = .ok (.iload_n 3, 1) := by decide +kernel
theorem dX9_decomposes_102 : decode cX9_decomposes 102 = .ok (.imul, 1) := by decide +kernel
theorem dX9_decomposes_103 : decode cX9_decomposes 103 = .ok (.iload_n 2, 1) := by decide +kernel
theorem dX9_decomposes_104 : decode cX9_decomposes 104 = .ok (.iadd, 1) := by decide +kernel
theorem dX9_decomposes_105 : decode cX9_decomposes 105 = .ok (.iaload, 1) := by decide +kernel
theorem dX9_decomposes_106 : decode cX9_decomposes 106 = .ok (.sipush 32003, 3) := by decide +kernel
theorem dX9_decomposes_109 : decode cX9_decomposes 109 = .ok (.irem, 1) := by decide +kernel
theorem dX9_decomposes_110 : decode cX9_decomposes 110 = .ok (.sipush 32003, 3) := by decide +kernel
theorem dX9_decomposes_113 : decode cX9_decomposes 113 = .ok (.iadd, 1) := by decide +kernel
theorem dX9_decomposes_114 : decode cX9_decomposes 114 = .ok (.sipush 32003, 3) := by decide +kernel
theorem dX9_decomposes_117 : decode cX9_decomposes 117 = .ok (.irem, 1) := by decide +kernel
theorem dX9_decomposes_118 : decode cX9_decomposes 118 = .ok (.iastore, 1) := by decide +kernel
theorem dX9_decomposes_119 : decode cX9_decomposes 119 = .ok (.iinc 3 1, 3) := by decide +kernel
theorem dX9_decomposes_122 : decode cX9_decomposes 122 = .ok (.goto (-96), 3) := by decide +kernel
theorem dX9_decomposes_125 : decode cX9_decomposes 125 = .ok (.iinc 1 1, 3) := by decide +kernel
theorem dX9_decomposes_128 : decode cX9_decomposes 128 = .ok (.iinc 2 1, 3) := by decide +kernel
theorem dX9_decomposes_131 : decode cX9_decomposes 131 = .ok (.goto (-127), 3) := by decide +kernel
theorem dX9_decomposes_134 : decode cX9_decomposes 134 = .ok (.iconst 0, 1) := by decide +kernel
theorem dX9_decomposes_135 : decode cX9_decomposes 135 = .ok (.istore_n 2, 1) := by decide +kernel
theorem dX9_decomposes_136 : decode cX9_decomposes 136 = .ok (.iload_n 2, 1) := by decide +kernel
theorem dX9_decomposes_137 : decode cX9_decomposes 137 = .ok (.aload_n 0, 1) := by decide +kernel
theorem dX9_decomposes_138 : decode cX9_decomposes 138 = .ok (.getfield 172, 3) := by decide +kernel
theorem dX9_decomposes_141 : decode cX9_decomposes 141 = .ok (.if_icmp .ge 294, 3) := by decide +kernel
theorem dX9_decomposes_144 : decode cX9_decomposes 144 = .ok (.iload_n 2, 1) := by decide +kernel
theorem dX9_decomposes_145 : decode cX9_decomposes 145 = .ok (.istore_n 3, 1) := by decide +kernel
theorem dX9_decomposes_146 : decode cX9_decomposes 146 = .ok (.iload_n 3, 1) := by decide +kernel
theorem dX9_decomposes_147 : decode cX9_decomposes 147 = .ok (.iload_n 1, 1) := by decide +kernel
theorem dX9_decomposes_148 : decode cX9_decomposes 148 = .ok (.if_icmp .ge 23, 3) := by decide +kernel
theorem dX9_decomposes_151 : decode cX9_decomposes 151 = .ok (.aload_n 0, 1) := by decide +kernel
theorem dX9_decomposes_152 : decode cX9_decomposes 152 = .ok (.getfield 102, 3) := by decide +kernel
theorem dX9_decomposes_155 : decode cX9_decomposes 155 = .ok (.bipush 22, 2) := by decide +kernel
theorem dX9_decomposes_157 : decode cX9_decomposes 157 = .ok (.iload_n 3, 1) := by decide +kernel
theorem dX9_decomposes_158 : decode cX9_decomposes 158 = .ok (.imul, 1) := by decide +kernel
theorem dX9_decomposes_159 : decode cX9_decomposes 159 = .ok (.iload_n 2, 1) := by decide +kernel
theorem dX9_decomposes_160 : decode cX9_decomposes 160 = .ok (.iadd, 1) := by decide +kernel
theorem dX9_decomposes_161 : decode cX9_decomposes 161 = .ok (.iaload, 1) := by decide +kernel
theorem dX9_decomposes_162 : decode cX9_decomposes 162 = .ok (.ifCond .ne 9, 3) := by decide +kernel
theorem dX9_decomposes_165 : decode cX9_decomposes 165 = .ok (.iinc 3 1, 3) := by decide +kernel
theorem dX9_decomposes_168 : decode cX9_decomposes 168 = .ok (.goto (-22), 3) := by decide +kernel
theorem dX9_decomposes_171 : decode cX9_decomposes 171 = .ok (.iconst 0, 1) := by decide +kernel
theorem dX9_decomposes_172 : decode cX9_decomposes 172 = .ok (.istore 4, 2) := by decide +kernel
theorem dX9_decomposes_174 : decode cX9_decomposes 174 = .ok (.iload 4, 2) := by decide +kernel
theorem dX9_decomposes_176 : decode cX9_decomposes 176 = .ok (.bipush 22, 2) := by decide +kernel
theorem dX9_decomposes_178 : decode cX9_decomposes 178 = .ok (.if_icmp .ge 66, 3) := by decide +kernel
theorem dX9_decomposes_181 : decode cX9_decomposes 181 = .ok (.iload_n 3, 1) := by decide +kernel
theorem dX9_decomposes_182 : decode cX9_decomposes 182 = .ok (.iload_n 1, 1) := by decide +kernel
theorem dX9_decomposes_183 : decode cX9_decomposes 183 = .ok (.if_icmp .ge 61, 3) := by decide +kernel
theorem dX9_decomposes_186 : decode cX9_decomposes 186 = .ok (.aload_n 0, 1) := by decide +kernel
theorem dX9_decomposes_187 : decode cX9_decomposes 187 = .ok (.getfield 102, 3) := by decide +kernel
theorem dX9_decomposes_190 : decode cX9_decomposes 190 = .ok (.bipush 22, 2) := by decide +kernel
theorem dX9_decomposes_192 : decode cX9_decomposes 192 = .ok (.iload_n 3, 1) := by decide +kernel
theorem dX9_decomposes_193 : decode cX9_decomposes 193 = .ok (.imul, 1) := by decide +kernel
theorem dX9_decomposes_194 : decode cX9_decomposes 194 = .ok (.iload 4, 2) := by decide +kernel
theorem dX9_decomposes_196 : decode cX9_decomposes 196 = .ok (.iadd, 1) := by decide +kernel
theorem dX9_decomposes_197 : decode cX9_decomposes 197 = .ok (.iaload, 1) := by decide +kernel
theorem dX9_decomposes_198 : decode cX9_decomposes 198 = .ok (.istore 5, 2) := by decide +kernel
theorem dX9_decomposes_200 : decode cX9_decomposes 200 = .ok (.aload_n 0, 1) := by decide +kernel
theorem dX9_decomposes_201 : decode cX9_decomposes 201 = .ok (.getfield 102, 3) := by decide +kernel
theorem dX9_decomposes_204 : decode cX9_decomposes 204 = .ok (.bipush 22, 2) := by decide +kernel
theorem dX9_decomposes_206 : decode cX9_decomposes 206 = .ok (.iload_n 3, 1) := by decide +kernel
theorem dX9_decomposes_207 : decode cX9_decomposes 207 = .ok (.imul, 1) := by decide +kernel
theorem dX9_decomposes_208 : decode cX9_decomposes 208 = .ok (.iload 4, 2) := by decide +kernel
theorem dX9_decomposes_210 : decode cX9_decomposes 210 = .ok (.iadd, 1) := by decide +kernel
theorem dX9_decomposes_211 : decode cX9_decomposes 211 = .ok (.aload_n 0, 1) := by decide +kernel
theorem dX9_decomposes_212 : decode cX9_decomposes 212 = .ok (.getfield 102, 3) := by decide +kernel
theorem dX9_decomposes_215 : decode cX9_decomposes 215 = .ok (.bipush 22, 2) := by decide +kernel
theorem dX9_decomposes_217 : decode cX9_decomposes 217 = .ok (.iload_n 2, 1) := by decide +kernel
theorem dX9_decomposes_218 : decode cX9_decomposes 218 = .ok (.imul, 1) := by decide +kernel
theorem dX9_decomposes_219 : decode cX9_decomposes 219 = .ok (.iload 4, 2) := by decide +kernel
theorem dX9_decomposes_221 : decode cX9_decomposes 221 = .ok (.iadd, 1) := by decide +kernel
theorem dX9_decomposes_222 : decode cX9_decomposes 222 = .ok (.iaload, 1) := by decide +kernel
theorem dX9_decomposes_223 : decode cX9_decomposes 223 = .ok (.iastore, 1) := by decide +kernel
theorem dX9_decomposes_224 : decode cX9_decomposes 224 = .ok (.aload_n 0, 1) := by decide +kernel
theorem dX9_decomposes_225 : decode cX9_decomposes 225 = .ok (.getfield 102, 3) := by decide +kernel
theorem dX9_decomposes_228 : decode cX9_decomposes 228 = .ok (.bipush 22, 2) := by decide +kernel
theorem dX9_decomposes_230 : decode cX9_decomposes 230 = .ok (.iload_n 2, 1) := by decide +kernel
theorem dX9_decomposes_231 : decode cX9_decomposes 231 = .ok (.imul, 1) := by decide +kernel
theorem dX9_decomposes_232 : decode cX9_decomposes 232 = .ok (.iload 4, 2) := by decide +kernel
theorem dX9_decomposes_234 : decode cX9_decomposes 234 = .ok (.iadd, 1) := by decide +kernel
theorem dX9_decomposes_235 : decode cX9_decomposes 235 = .ok (.iload 5, 2) := by decide +kernel
theorem dX9_decomposes_237 : decode cX9_decomposes 237 = .ok (.iastore, 1) := by decide +kernel
theorem dX9_decomposes_238 : decode cX9_decomposes 238 = .ok (.iinc 4 1, 3) := by decide +kernel
theorem dX9_decomposes_241 : decode cX9_decomposes 241 = .ok (.goto (-67), 3) := by decide +kernel
theorem dX9_decomposes_244 : decode cX9_decomposes 244 = .ok (.aload_n 0, 1) := by decide +kernel
theorem dX9_decomposes_245 : decode cX9_decomposes 245 = .ok (.getfield 102, 3) := by decide +kernel
theorem dX9_decomposes_248 : decode cX9_decomposes 248 = .ok (.bipush 22, 2) := by decide +kernel
