section
/-! both sides at all groups: by program -/
theorem evB_partition : ∀ g, g < 24 → zX2 (fun a b => f_X8_partitiona [zR 1, zI a, zI b] (hCf g) (fun r h => zands [zsubH h (hCf g), f_X9_partitiona [zR 1, zI a, zI b] (hRf g) (fun r2 h2 => zands [zeqI r r2, zsubH h2 (hRf g)])]))
  | 0, _ => zX2_of (zlwQ_cv _) (fun _ => zlwQ_cv _) evB_0_partition
  | 1, _ => zX2_of (zlwQ_cv _) (fun _ => zlwQ_cv _) evB_1_partition
  | 2, _ => zX2_of (zlwQ_cv _) (fun _ => zlwQ_cv _) evB_2_partition
  | 3, _ => zX2_of (zlwQ_cv _) (fun _ => zlwQ_cv _) evB_3_partition
  | 4, _ => zX2_of (zlwQ_cv _) (fun _ => zlwQ_cv _) evB_4_partition
  | 5, _ => zX2_of (zlwQ_cv _) (fun _ => zlwQ_cv _) evB_5_partition
  | 6, _ => zX2_of (zlwQ_cv _) (fun _ => zlwQ_cv _) evB_6_partition
  | 7, _ => zX2_of (zlwQ_cv _) (fun _ => zlwQ_cv _) evB_7_partition
  | 8, _ => zX2_of (zlwQ_cv _) (fun _ => zlwQ_cv _) evB_8_partition
  | 9, _ => zX2_of (zlwQ_cv _) (fun _ => zlwQ_cv _) evB_9_partition
  | 10, _ => zX2_of (zlwQ_cv _) (fun _ => zlwQ_cv _) evB_10_partition
  | 11, _ => zX2_of (zlwQ_cv _) (fun _ => zlwQ_cv _) evB_11_partition
  | 12, _ => zX2_of (zlwQ_cv _) (fun _ => zlwQ_cv _) evB_12_partition
  | 13, _ => zX2_of (zlwQ_cv _) (fun _ => zlwQ_cv _) evB_13_partition
  | 14, _ => zX2_of (zlwQ_cv _) (fun _ => zlwQ_cv _) evB_14_partition
  | 15, _ => zX2_of (zlwQ_cv _) (fun _ => zlwQ_cv _) evB_15_partition
  | 16, _ => zX2_of (zlwQ_cv _) (fun _ => zlwQ_cv _) evB_16_partition
  | 17, _ => zX2_of (zlwQ_cv _) (fun _ => zlwQ_cv _) evB_17_partition
  | 18, _ => zX2_of (zlwQ_cv _) (fun _ => zlwQ_cv _) evB_18_partition
  | 19, _ => zX2_of (zlwQ_cv _) (fun _ => zlwQ_cv _) evB_19_partition
  | 20, _ => zX2_of (zlwQ_cv _) (fun _ => zlwQ_cv _) evB_20_partition
  | 21, _ => zX2_of (zlwQ_cv _) (fun _ => zlwQ_cv _) evB_21_partition
  | 22, _ => zX2_of (zlwQ_cv _) (fun _ => zlwQ_cv _) evB_22_partition
  | 23, _ => zX2_of (zlwQ_cv _) (fun _ => zlwQ_cv _) evB_23_partition
  | n + 24, h => absurd h (by omega)
end
section
/-! instructions of the law, by program -/
theorem zdT_dl_0 : zdch code [(0, (.new 7, 3)), (3, (.dup, 1)), (4, (.invokespecial 9, 3)), (7, (.astore_n 1, 1)), (8, (.new 10, 3)), (11, (.dup, 1)), (12, (.invokespecial 12, 3)), (15, (.astore_n 2, 1)), (16, (.iconst 0, 1)), (17, (.istore_n 3, 1)), (18, (.iload_n 3, 1)), (19, (.aload_n 0, 1)), (20, (.arraylength, 1)), (21, (.bipush 6, 2)), (23, (.isub, 1)), (24, (.if_icmp .gt 968, 3)), (27, (.aload_n 0, 1)), (28, (.iload_n 3, 1)), (29, (.iaload, 1)), (30, (.bipush 31, 2)), (32, (.iand, 1)), (33, (.tableswitch 953 0 23 #[111, 144, 207, 230, 253, 276, 309, 342, 375, 418, 451, 484, 517, 550, 583, 616, 669, 712, 745, 778, 821, 854, 887, 930], 111)), (144, (.aload_n 1, 1)), (145, (.aload_n 0, 1)), (146, (.iload_n 3, 1))] = true := by decide +kernel
theorem dl_0 : decode code 0 = .ok (.new 7, 3) := zdcg 0 zdT_dl_0 rfl
theorem dl_3 : decode code 3 = .ok (.dup, 1) := zdcg 1 zdT_dl_0 rfl
theorem dl_4 : decode code 4 = .ok (.invokespecial 9, 3) := zdcg 2 zdT_dl_0 rfl
theorem dl_7 : decode code 7 = .ok (.astore_n 1, 1) := zdcg 3 zdT_dl_0 rfl
theorem dl_8 : decode code 8 = .ok (.new 10, 3) := zdcg 4 zdT_dl_0 rfl
theorem dl_11 : decode code 11 = .ok (.dup, 1) := zdcg 5 zdT_dl_0 rfl
theorem dl_12 : decode code 12 = .ok (.invokespecial 12, 3) := zdcg 6 zdT_dl_0 rfl
theorem dl_15 : decode code 15 = .ok (.astore_n 2, 1) := zdcg 7 zdT_dl_0 rfl
theorem dl_16 : decode code 16 = .ok (.iconst 0, 1) := zdcg 8 zdT_dl_0 rfl
theorem dl_17 : decode code 17 = .ok (.istore_n 3, 1) := zdcg 9 zdT_dl_0 rfl
theorem dl_18 : decode code 18 = .ok (.iload_n 3, 1) := zdcg 10 zdT_dl_0 rfl
theorem dl_19 : decode code 19 = .ok (.aload_n 0, 1) := zdcg 11 zdT_dl_0 rfl
theorem dl_20 : decode code 20 = .ok (.arraylength, 1) := zdcg 12 zdT_dl_0 rfl
theorem dl_21 : decode code 21 = .ok (.bipush 6, 2) := zdcg 13 zdT_dl_0 rfl
theorem dl_23 : decode code 23 = .ok (.isub, 1) := zdcg 14 zdT_dl_0 rfl
theorem dl_24 : decode code 24 = .ok (.if_icmp .gt 968, 3) := zdcg 15 zdT_dl_0 rfl
theorem dl_27 : decode code 27 = .ok (.aload_n 0, 1) := zdcg 16 zdT_dl_0 rfl
theorem dl_28 : decode code 28 = .ok (.iload_n 3, 1) := zdcg 17 zdT_dl_0 rfl
theorem dl_29 : decode code 29 = .ok (.iaload, 1) := zdcg 18 zdT_dl_0 rfl
theorem dl_30 : decode code 30 = .ok (.bipush 31, 2) := zdcg 19 zdT_dl_0 rfl
theorem dl_32 : decode code 32 = .ok (.iand, 1) := zdcg 20 zdT_dl_0 rfl
theorem dl_33 : decode code 33 = .ok (.tableswitch 953 0 23 #[111, 144, 207, 230, 253, 276, 309, 342, 375, 418, 451, 484, 517, 550, 583, 616, 669, 712, 745, 778, 821, 854, 887, 930], 111) := zdcg 21 zdT_dl_0 rfl
theorem dl_144 : decode code 144 = .ok (.aload_n 1, 1) := zdcg 22 zdT_dl_0 rfl
theorem dl_145 : decode code 145 = .ok (.aload_n 0, 1) := zdcg 23 zdT_dl_0 rfl
theorem dl_146 : decode code 146 = .ok (.iload_n 3, 1) := zdcg 24 zdT_dl_0 rfl
theorem zdT_dl_147 : zdch code [(147, (.iconst 1, 1)), (148, (.iadd, 1)), (149, (.iaload, 1)), (150, (.aload_n 0, 1)), (151, (.iload_n 3, 1)), (152, (.iconst 2, 1)), (153, (.iadd, 1)), (154, (.iaload, 1)), (155, (.invokevirtual 13, 3)), (158, (.pop, 1)), (159, (.aload_n 2, 1)), (160, (.aload_n 0, 1)), (161, (.iload_n 3, 1)), (162, (.iconst 1, 1)), (163, (.iadd, 1)), (164, (.iaload, 1)), (165, (.aload_n 0, 1)), (166, (.iload_n 3, 1)), (167, (.iconst 2, 1)), (168, (.iadd, 1)), (169, (.iaload, 1)), (170, (.invokevirtual 17, 3)), (173, (.pop, 1)), (174, (.goto 812, 3)), (177, (.aload_n 1, 1))] = true := by decide +kernel
theorem dl_147 : decode code 147 = .ok (.iconst 1, 1) := zdcg 0 zdT_dl_147 rfl
theorem dl_148 : decode code 148 = .ok (.iadd, 1) := zdcg 1 zdT_dl_147 rfl
theorem dl_149 : decode code 149 = .ok (.iaload, 1) := zdcg 2 zdT_dl_147 rfl
theorem dl_150 : decode code 150 = .ok (.aload_n 0, 1) := zdcg 3 zdT_dl_147 rfl
theorem dl_151 : decode code 151 = .ok (.iload_n 3, 1) := zdcg 4 zdT_dl_147 rfl
theorem dl_152 : decode code 152 = .ok (.iconst 2, 1) := zdcg 5 zdT_dl_147 rfl
theorem dl_153 : decode code 153 = .ok (.iadd, 1) := zdcg 6 zdT_dl_147 rfl
theorem dl_154 : decode code 154 = .ok (.iaload, 1) := zdcg 7 zdT_dl_147 rfl
theorem dl_155 : decode code 155 = .ok (.invokevirtual 13, 3) := zdcg 8 zdT_dl_147 rfl
theorem dl_158 : decode code 158 = .ok (.pop, 1) := zdcg 9 zdT_dl_147 rfl
theorem dl_159 : decode code 159 = .ok (.aload_n 2, 1) := zdcg 10 zdT_dl_147 rfl
theorem dl_160 : decode code 160 = .ok (.aload_n 0, 1) := zdcg 11 zdT_dl_147 rfl
theorem dl_161 : decode code 161 = .ok (.iload_n 3, 1) := zdcg 12 zdT_dl_147 rfl
theorem dl_162 : decode code 162 = .ok (.iconst 1, 1) := zdcg 13 zdT_dl_147 rfl
theorem dl_163 : decode code 163 = .ok (.iadd, 1) := zdcg 14 zdT_dl_147 rfl
theorem dl_164 : decode code 164 = .ok (.iaload, 1) := zdcg 15 zdT_dl_147 rfl
theorem dl_165 : decode code 165 = .ok (.aload_n 0, 1) := zdcg 16 zdT_dl_147 rfl
theorem dl_166 : decode code 166 = .ok (.iload_n 3, 1) := zdcg 17 zdT_dl_147 rfl
theorem dl_167 : decode code 167 = .ok (.iconst 2, 1) := zdcg 18 zdT_dl_147 rfl
theorem dl_168 : decode code 168 = .ok (.iadd, 1) := zdcg 19 zdT_dl_147 rfl
theorem dl_169 : decode code 169 = .ok (.iaload, 1) := zdcg 20 zdT_dl_147 rfl
theorem dl_170 : decode code 170 = .ok (.invokevirtual 17, 3) := zdcg 21 zdT_dl_147 rfl
theorem dl_173 : decode code 173 = .ok (.pop, 1) := zdcg 22 zdT_dl_147 rfl
theorem dl_174 : decode code 174 = .ok (.goto 812, 3) := zdcg 23 zdT_dl_147 rfl
theorem dl_177 : decode code 177 = .ok (.aload_n 1, 1) := zdcg 24 zdT_dl_147 rfl
theorem zdT_dl_178 : zdch code [(178, (.aload_n 0, 1)), (179, (.iload_n 3, 1)), (180, (.iconst 1, 1)), (181, (.iadd, 1)), (182, (.iaload, 1)), (183, (.aload_n 0, 1)), (184, (.iload_n 3, 1)), (185, (.iconst 2, 1)), (186, (.iadd, 1)), (187, (.iaload, 1)), (188, (.aload_n 0, 1)), (189, (.iload_n 3, 1)), (190, (.iconst 3, 1)), (191, (.iadd, 1)), (192, (.iaload, 1)), (193, (.aload_n 0, 1)), (194, (.iload_n 3, 1)), (195, (.iconst 4, 1)), (196, (.iadd, 1)), (197, (.iaload, 1)), (198, (.aload_n 0, 1)), (199, (.iload_n 3, 1)), (200, (.iconst 5, 1)), (201, (.iadd, 1)), (202, (.iaload, 1))] = true := by decide +kernel
theorem dl_178 : decode code 178 = .ok (.aload_n 0, 1) := zdcg 0 zdT_dl_178 rfl
theorem dl_179 : decode code 179 = .ok (.iload_n 3, 1) := zdcg 1 zdT_dl_178 rfl
theorem dl_180 : decode code 180 = .ok (.iconst 1, 1) := zdcg 2 zdT_dl_178 rfl
theorem dl_181 : decode code 181 = .ok (.iadd, 1) := zdcg 3 zdT_dl_178 rfl
theorem dl_182 : decode code 182 = .ok (.iaload, 1) := zdcg 4 zdT_dl_178 rfl
theorem dl_183 : decode code 183 = .ok (.aload_n 0, 1) := zdcg 5 zdT_dl_178 rfl
theorem dl_184 : decode code 184 = .ok (.iload_n 3, 1) := zdcg 6 zdT_dl_178 rfl
theorem dl_185 : decode code 185 = .ok (.iconst 2, 1) := zdcg 7 zdT_dl_178 rfl
theorem dl_186 : decode code 186 = .ok (.iadd, 1) := zdcg 8 zdT_dl_178 rfl
theorem dl_187 : decode code 187 = .ok (.iaload, 1) := zdcg 9 zdT_dl_178 rfl
theorem dl_188 : decode code 188 = .ok (.aload_n 0, 1) := zdcg 10 zdT_dl_178 rfl
theorem dl_189 : decode code 189 = .ok (.iload_n 3, 1) := zdcg 11 zdT_dl_178 rfl
theorem dl_190 : decode code 190 = .ok (.iconst 3, 1) := zdcg 12 zdT_dl_178 rfl
theorem dl_191 : decode code 191 = .ok (.iadd, 1) := zdcg 13 zdT_dl_178 rfl
theorem dl_192 : decode code 192 = .ok (.iaload, 1) := zdcg 14 zdT_dl_178 rfl
theorem dl_193 : decode code 193 = .ok (.aload_n 0, 1) := zdcg 15 zdT_dl_178 rfl
theorem dl_194 : decode code 194 = .ok (.iload_n 3, 1) := zdcg 16 zdT_dl_178 rfl
theorem dl_195 : decode code 195 = .ok (.iconst 4, 1) := zdcg 17 zdT_dl_178 rfl
theorem dl_196 : decode code 196 = .ok (.iadd, 1) := zdcg 18 zdT_dl_178 rfl
theorem dl_197 : decode code 197 = .ok (.iaload, 1) := zdcg 19 zdT_dl_178 rfl
theorem dl_198 : decode code 198 = .ok (.aload_n 0, 1) := zdcg 20 zdT_dl_178 rfl
theorem dl_199 : decode code 199 = .ok (.iload_n 3, 1) := zdcg 21 zdT_dl_178 rfl
theorem dl_200 : decode code 200 = .ok (.iconst 5, 1) := zdcg 22 zdT_dl_178 rfl
theorem dl_201 : decode code 201 = .ok (.iadd, 1) := zdcg 23 zdT_dl_178 rfl
theorem dl_202 : decode code 202 = .ok (.iaload, 1) := zdcg 24 zdT_dl_178 rfl
theorem zdT_dl_203 : zdch code [(203, (.invokevirtual 18, 3)), (206, (.pop, 1)), (207, (.aload_n 2, 1)), (208, (.aload_n 0, 1)), (209, (.iload_n 3, 1)), (210, (.iconst 1, 1)), (211, (.iadd, 1)), (212, (.iaload, 1)), (213, (.aload_n 0, 1)), (214, (.iload_n 3, 1)), (215, (.iconst 2, 1)), (216, (.iadd, 1)), (217, (.iaload, 1)), (218, (.aload_n 0, 1)), (219, (.iload_n 3, 1)), (220, (.iconst 3, 1)), (221, (.iadd, 1)), (222, (.iaload, 1)), (223, (.aload_n 0, 1)), (224, (.iload_n 3, 1)), (225, (.iconst 4, 1)), (226, (.iadd, 1)), (227, (.iaload, 1)), (228, (.aload_n 0, 1)), (229, (.iload_n 3, 1))] = true := by decide +kernel
theorem dl_203 : decode code 203 = .ok (.invokevirtual 18, 3) := zdcg 0 zdT_dl_203 rfl
theorem dl_206 : decode code 206 = .ok (.pop, 1) := zdcg 1 zdT_dl_203 rfl
theorem dl_207 : decode code 207 = .ok (.aload_n 2, 1) := zdcg 2 zdT_dl_203 rfl
theorem dl_208 : decode code 208 = .ok (.aload_n 0, 1) := zdcg 3 zdT_dl_203 rfl
theorem dl_209 : decode code 209 = .ok (.iload_n 3, 1) := zdcg 4 zdT_dl_203 rfl
theorem dl_210 : decode code 210 = .ok (.iconst 1, 1) := zdcg 5 zdT_dl_203 rfl
theorem dl_211 : decode code 211 = .ok (.iadd, 1) := zdcg 6 zdT_dl_203 rfl
theorem dl_212 : decode code 212 = .ok (.iaload, 1) := zdcg 7 zdT_dl_203 rfl
theorem dl_213 : decode code 213 = .ok (.aload_n 0, 1) := zdcg 8 zdT_dl_203 rfl
theorem dl_214 : decode code 214 = .ok (.iload_n 3, 1) := zdcg 9 zdT_dl_203 rfl
theorem dl_215 : decode code 215 = .ok (.iconst 2, 1) := zdcg 10 zdT_dl_203 rfl
theorem dl_216 : decode code 216 = .ok (.iadd, 1) := zdcg 11 zdT_dl_203 rfl
theorem dl_217 : decode code 217 = .ok (.iaload, 1) := zdcg 12 zdT_dl_203 rfl
theorem dl_218 : decode code 218 = .ok (.aload_n 0, 1) := zdcg 13 zdT_dl_203 rfl
theorem dl_219 : decode code 219 = .ok (.iload_n 3, 1) := zdcg 14 zdT_dl_203 rfl
theorem dl_220 : decode code 220 = .ok (.iconst 3, 1) := zdcg 15 zdT_dl_203 rfl
theorem dl_221 : decode code 221 = .ok (.iadd, 1) := zdcg 16 zdT_dl_203 rfl
theorem dl_222 : decode code 222 = .ok (.iaload, 1) := zdcg 17 zdT_dl_203 rfl
theorem dl_223 : decode code 223 = .ok (.aload_n 0, 1) := zdcg 18 zdT_dl_203 rfl
theorem dl_224 : decode code 224 = .ok (.iload_n 3, 1) := zdcg 19 zdT_dl_203 rfl
theorem dl_225 : decode code 225 = .ok (.iconst 4, 1) := zdcg 20 zdT_dl_203 rfl
theorem dl_226 : decode code 226 = .ok (.iadd, 1) := zdcg 21 zdT_dl_203 rfl
theorem dl_227 : decode code 227 = .ok (.iaload, 1) := zdcg 22 zdT_dl_203 rfl
theorem dl_228 : decode code 228 = .ok (.aload_n 0, 1) := zdcg 23 zdT_dl_203 rfl
theorem dl_229 : decode code 229 = .ok (.iload_n 3, 1) := zdcg 24 zdT_dl_203 rfl
theorem zdT_dl_230 : zdch code [(230, (.iconst 5, 1)), (231, (.iadd, 1)), (232, (.iaload, 1)), (233, (.invokevirtual 22, 3)), (236, (.pop, 1)), (237, (.goto 749, 3)), (240, (.aload_n 1, 1)), (241, (.aload_n 0, 1)), (242, (.iload_n 3, 1)), (243, (.iconst 1, 1)), (244, (.iadd, 1)), (245, (.iaload, 1)), (246, (.invokevirtual 23, 3)), (249, (.pop, 1)), (250, (.aload_n 2, 1)), (251, (.aload_n 0, 1)), (252, (.iload_n 3, 1)), (253, (.iconst 1, 1)), (254, (.iadd, 1)), (255, (.iaload, 1)), (256, (.invokevirtual 27, 3)), (259, (.pop, 1)), (260, (.goto 726, 3)), (263, (.aload_n 1, 1)), (264, (.aload_n 0, 1))] = true := by decide +kernel
theorem dl_230 : decode code 230 = .ok (.iconst 5, 1) := zdcg 0 zdT_dl_230 rfl
theorem dl_231 : decode code 231 = .ok (.iadd, 1) := zdcg 1 zdT_dl_230 rfl
theorem dl_232 : decode code 232 = .ok (.iaload, 1) := zdcg 2 zdT_dl_230 rfl
theorem dl_233 : decode code 233 = .ok (.invokevirtual 22, 3) := zdcg 3 zdT_dl_230 rfl
theorem dl_236 : decode code 236 = .ok (.pop, 1) := zdcg 4 zdT_dl_230 rfl
theorem dl_237 : decode code 237 = .ok (.goto 749, 3) := zdcg 5 zdT_dl_230 rfl
theorem dl_240 : decode code 240 = .ok (.aload_n 1, 1) := zdcg 6 zdT_dl_230 rfl
theorem dl_241 : decode code 241 = .ok (.aload_n 0, 1) := zdcg 7 zdT_dl_230 rfl
theorem dl_242 : decode code 242 = .ok (.iload_n 3, 1) := zdcg 8 zdT_dl_230 rfl
theorem dl_243 : decode code 243 = .ok (.iconst 1, 1) := zdcg 9 zdT_dl_230 rfl
theorem dl_244 : decode code 244 = .ok (.iadd, 1) := zdcg 10 zdT_dl_230 rfl
theorem dl_245 : decode code 245 = .ok (.iaload, 1) := zdcg 11 zdT_dl_230 rfl
theorem dl_246 : decode code 246 = .ok (.invokevirtual 23, 3) := zdcg 12 zdT_dl_230 rfl
theorem dl_249 : decode code 249 = .ok (.pop, 1) := zdcg 13 zdT_dl_230 rfl
theorem dl_250 : decode code 250 = .ok (.aload_n 2, 1) := zdcg 14 zdT_dl_230 rfl
theorem dl_251 : decode code 251 = .ok (.aload_n 0, 1) := zdcg 15 zdT_dl_230 rfl
theorem dl_252 : decode code 252 = .ok (.iload_n 3, 1) := zdcg 16 zdT_dl_230 rfl
theorem dl_253 : decode code 253 = .ok (.iconst 1, 1) := zdcg 17 zdT_dl_230 rfl
theorem dl_254 : decode code 254 = .ok (.iadd, 1) := zdcg 18 zdT_dl_230 rfl
theorem dl_255 : decode code 255 = .ok (.iaload, 1) := zdcg 19 zdT_dl_230 rfl
theorem dl_256 : decode code 256 = .ok (.invokevirtual 27, 3) := zdcg 20 zdT_dl_230 rfl
theorem dl_259 : decode code 259 = .ok (.pop, 1) := zdcg 21 zdT_dl_230 rfl
theorem dl_260 : decode code 260 = .ok (.goto 726, 3) := zdcg 22 zdT_dl_230 rfl
theorem dl_263 : decode code 263 = .ok (.aload_n 1, 1) := zdcg 23 zdT_dl_230 rfl
theorem dl_264 : decode code 264 = .ok (.aload_n 0, 1) := zdcg 24 zdT_dl_230 rfl
theorem zdT_dl_265 : zdch code [(265, (.iload_n 3, 1)), (266, (.iconst 1, 1)), (267, (.iadd, 1)), (268, (.iaload, 1)), (269, (.invokevirtual 28, 3)), (272, (.pop, 1)), (273, (.aload_n 2, 1)), (274, (.aload_n 0, 1)), (275, (.iload_n 3, 1)), (276, (.iconst 1, 1)), (277, (.iadd, 1)), (278, (.iaload, 1)), (279, (.invokevirtual 32, 3)), (282, (.pop, 1)), (283, (.goto 703, 3)), (286, (.aload_n 1, 1)), (287, (.aload_n 0, 1)), (288, (.iload_n 3, 1)), (289, (.iconst 1, 1)), (290, (.iadd, 1)), (291, (.iaload, 1)), (292, (.invokevirtual 33, 3)), (295, (.pop, 1)), (296, (.aload_n 2, 1)), (297, (.aload_n 0, 1))] = true := by decide +kernel
theorem dl_265 : decode code 265 = .ok (.iload_n 3, 1) := zdcg 0 zdT_dl_265 rfl
theorem dl_266 : decode code 266 = .ok (.iconst 1, 1) := zdcg 1 zdT_dl_265 rfl
theorem dl_267 : decode code 267 = .ok (.iadd, 1) := zdcg 2 zdT_dl_265 rfl
theorem dl_268 : decode code 268 = .ok (.iaload, 1) := zdcg 3 zdT_dl_265 rfl
theorem dl_269 : decode code 269 = .ok (.invokevirtual 28, 3) := zdcg 4 zdT_dl_265 rfl
theorem dl_272 : decode code 272 = .ok (.pop, 1) := zdcg 5 zdT_dl_265 rfl
theorem dl_273 : decode code 273 = .ok (.aload_n 2, 1) := zdcg 6 zdT_dl_265 rfl
theorem dl_274 : decode code 274 = .ok (.aload_n 0, 1) := zdcg 7 zdT_dl_265 rfl
theorem dl_275 : decode code 275 = .ok (.iload_n 3, 1) := zdcg 8 zdT_dl_265 rfl
theorem dl_276 : decode code 276 = .ok (.iconst 1, 1) := zdcg 9 zdT_dl_265 rfl
theorem dl_277 : decode code 277 = .ok (.iadd, 1) := zdcg 10 zdT_dl_265 rfl
theorem dl_278 : decode code 278 = .ok (.iaload, 1) := zdcg 11 zdT_dl_265 rfl
theorem dl_279 : decode code 279 = .ok (.invokevirtual 32, 3) := zdcg 12 zdT_dl_265 rfl
theorem dl_282 : decode code 282 = .ok (.pop, 1) := zdcg 13 zdT_dl_265 rfl
theorem dl_283 : decode code 283 = .ok (.goto 703, 3) := zdcg 14 zdT_dl_265 rfl
theorem dl_286 : decode code 286 = .ok (.aload_n 1, 1) := zdcg 15 zdT_dl_265 rfl
theorem dl_287 : decode code 287 = .ok (.aload_n 0, 1) := zdcg 16 zdT_dl_265 rfl
theorem dl_288 : decode code 288 = .ok (.iload_n 3, 1) := zdcg 17 zdT_dl_265 rfl
theorem dl_289 : decode code 289 = .ok (.iconst 1, 1) := zdcg 18 zdT_dl_265 rfl
theorem dl_290 : decode code 290 = .ok (.iadd, 1) := zdcg 19 zdT_dl_265 rfl
theorem dl_291 : decode code 291 = .ok (.iaload, 1) := zdcg 20 zdT_dl_265 rfl
theorem dl_292 : decode code 292 = .ok (.invokevirtual 33, 3) := zdcg 21 zdT_dl_265 rfl
theorem dl_295 : decode code 295 = .ok (.pop, 1) := zdcg 22 zdT_dl_265 rfl
theorem dl_296 : decode code 296 = .ok (.aload_n 2, 1) := zdcg 23 zdT_dl_265 rfl
theorem dl_297 : decode code 297 = .ok (.aload_n 0, 1) := zdcg 24 zdT_dl_265 rfl
theorem zdT_dl_298 : zdch code [(298, (.iload_n 3, 1)), (299, (.iconst 1, 1)), (300, (.iadd, 1)), (301, (.iaload, 1)), (302, (.invokevirtual 36, 3)), (305, (.pop, 1)), (306, (.goto 680, 3)), (309, (.aload_n 1, 1)), (310, (.aload_n 0, 1)), (311, (.iload_n 3, 1)), (312, (.iconst 1, 1)), (313, (.iadd, 1)), (314, (.iaload, 1)), (315, (.aload_n 0, 1)), (316, (.iload_n 3, 1)), (317, (.iconst 2, 1)), (318, (.iadd, 1)), (319, (.iaload, 1)), (320, (.invokevirtual 37, 3)), (323, (.aload_n 2, 1)), (324, (.aload_n 0, 1)), (325, (.iload_n 3, 1)), (326, (.iconst 1, 1)), (327, (.iadd, 1)), (328, (.iaload, 1))] = true := by decide +kernel
theorem dl_298 : decode code 298 = .ok (.iload_n 3, 1) := zdcg 0 zdT_dl_298 rfl
theorem dl_299 : decode code 299 = .ok (.iconst 1, 1) := zdcg 1 zdT_dl_298 rfl
theorem dl_300 : decode code 300 = .ok (.iadd, 1) := zdcg 2 zdT_dl_298 rfl
theorem dl_301 : decode code 301 = .ok (.iaload, 1) := zdcg 3 zdT_dl_298 rfl
theorem dl_302 : decode code 302 = .ok (.invokevirtual 36, 3) := zdcg 4 zdT_dl_298 rfl
theorem dl_305 : decode code 305 = .ok (.pop, 1) := zdcg 5 zdT_dl_298 rfl
theorem dl_306 : decode code 306 = .ok (.goto 680, 3) := zdcg 6 zdT_dl_298 rfl
theorem dl_309 : decode code 309 = .ok (.aload_n 1, 1) := zdcg 7 zdT_dl_298 rfl
theorem dl_310 : decode code 310 = .ok (.aload_n 0, 1) := zdcg 8 zdT_dl_298 rfl
theorem dl_311 : decode code 311 = .ok (.iload_n 3, 1) := zdcg 9 zdT_dl_298 rfl
theorem dl_312 : decode code 312 = .ok (.iconst 1, 1) := zdcg 10 zdT_dl_298 rfl
theorem dl_313 : decode code 313 = .ok (.iadd, 1) := zdcg 11 zdT_dl_298 rfl
theorem dl_314 : decode code 314 = .ok (.iaload, 1) := zdcg 12 zdT_dl_298 rfl
theorem dl_315 : decode code 315 = .ok (.aload_n 0, 1) := zdcg 13 zdT_dl_298 rfl
theorem dl_316 : decode code 316 = .ok (.iload_n 3, 1) := zdcg 14 zdT_dl_298 rfl
theorem dl_317 : decode code 317 = .ok (.iconst 2, 1) := zdcg 15 zdT_dl_298 rfl
theorem dl_318 : decode code 318 = .ok (.iadd, 1) := zdcg 16 zdT_dl_298 rfl
theorem dl_319 : decode code 319 = .ok (.iaload, 1) := zdcg 17 zdT_dl_298 rfl
theorem dl_320 : decode code 320 = .ok (.invokevirtual 37, 3) := zdcg 18 zdT_dl_298 rfl
theorem dl_323 : decode code 323 = .ok (.aload_n 2, 1) := zdcg 19 zdT_dl_298 rfl
theorem dl_324 : decode code 324 = .ok (.aload_n 0, 1) := zdcg 20 zdT_dl_298 rfl
theorem dl_325 : decode code 325 = .ok (.iload_n 3, 1) := zdcg 21 zdT_dl_298 rfl
theorem dl_326 : decode code 326 = .ok (.iconst 1, 1) := zdcg 22 zdT_dl_298 rfl
theorem dl_327 : decode code 327 = .ok (.iadd, 1) := zdcg 23 zdT_dl_298 rfl
theorem dl_328 : decode code 328 = .ok (.iaload, 1) := zdcg 24 zdT_dl_298 rfl
theorem zdT_dl_329 : zdch code [(329, (.aload_n 0, 1)), (330, (.iload_n 3, 1)), (331, (.iconst 2, 1)), (332, (.iadd, 1)), (333, (.iaload, 1)), (334, (.invokevirtual 40, 3)), (337, (.if_icmp .eq 649, 3)), (342, (.aload_n 1, 1)), (343, (.aload_n 0, 1)), (344, (.iload_n 3, 1)), (345, (.iconst 1, 1)), (346, (.iadd, 1)), (347, (.iaload, 1)), (348, (.aload_n 0, 1)), (349, (.iload_n 3, 1)), (350, (.iconst 2, 1)), (351, (.iadd, 1)), (352, (.iaload, 1)), (353, (.invokevirtual 41, 3)), (356, (.pop, 1)), (357, (.aload_n 2, 1)), (358, (.aload_n 0, 1)), (359, (.iload_n 3, 1)), (360, (.iconst 1, 1)), (361, (.iadd, 1))] = true := by decide +kernel
theorem dl_329 : decode code 329 = .ok (.aload_n 0, 1) := zdcg 0 zdT_dl_329 rfl
theorem dl_330 : decode code 330 = .ok (.iload_n 3, 1) := zdcg 1 zdT_dl_329 rfl
theorem dl_331 : decode code 331 = .ok (.iconst 2, 1) := zdcg 2 zdT_dl_329 rfl
theorem dl_332 : decode code 332 = .ok (.iadd, 1) := zdcg 3 zdT_dl_329 rfl
theorem dl_333 : decode code 333 = .ok (.iaload, 1) := zdcg 4 zdT_dl_329 rfl
theorem dl_334 : decode code 334 = .ok (.invokevirtual 40, 3) := zdcg 5 zdT_dl_329 rfl
theorem dl_337 : decode code 337 = .ok (.if_icmp .eq 649, 3) := zdcg 6 zdT_dl_329 rfl
theorem dl_342 : decode code 342 = .ok (.aload_n 1, 1) := zdcg 7 zdT_dl_329 rfl
theorem dl_343 : decode code 343 = .ok (.aload_n 0, 1) := zdcg 8 zdT_dl_329 rfl
theorem dl_344 : decode code 344 = .ok (.iload_n 3, 1) := zdcg 9 zdT_dl_329 rfl
theorem dl_345 : decode code 345 = .ok (.iconst 1, 1) := zdcg 10 zdT_dl_329 rfl
theorem dl_346 : decode code 346 = .ok (.iadd, 1) := zdcg 11 zdT_dl_329 rfl
theorem dl_347 : decode code 347 = .ok (.iaload, 1) := zdcg 12 zdT_dl_329 rfl
theorem dl_348 : decode code 348 = .ok (.aload_n 0, 1) := zdcg 13 zdT_dl_329 rfl
theorem dl_349 : decode code 349 = .ok (.iload_n 3, 1) := zdcg 14 zdT_dl_329 rfl
theorem dl_350 : decode code 350 = .ok (.iconst 2, 1) := zdcg 15 zdT_dl_329 rfl
theorem dl_351 : decode code 351 = .ok (.iadd, 1) := zdcg 16 zdT_dl_329 rfl
theorem dl_352 : decode code 352 = .ok (.iaload, 1) := zdcg 17 zdT_dl_329 rfl
theorem dl_353 : decode code 353 = .ok (.invokevirtual 41, 3) := zdcg 18 zdT_dl_329 rfl
theorem dl_356 : decode code 356 = .ok (.pop, 1) := zdcg 19 zdT_dl_329 rfl
theorem dl_357 : decode code 357 = .ok (.aload_n 2, 1) := zdcg 20 zdT_dl_329 rfl
theorem dl_358 : decode code 358 = .ok (.aload_n 0, 1) := zdcg 21 zdT_dl_329 rfl
theorem dl_359 : decode code 359 = .ok (.iload_n 3, 1) := zdcg 22 zdT_dl_329 rfl
theorem dl_360 : decode code 360 = .ok (.iconst 1, 1) := zdcg 23 zdT_dl_329 rfl
theorem dl_361 : decode code 361 = .ok (.iadd, 1) := zdcg 24 zdT_dl_329 rfl
theorem zdT_dl_362 : zdch code [(362, (.iaload, 1)), (363, (.aload_n 0, 1)), (364, (.iload_n 3, 1)), (365, (.iconst 2, 1)), (366, (.iadd, 1)), (367, (.iaload, 1)), (368, (.invokevirtual 44, 3)), (371, (.pop, 1)), (372, (.goto 614, 3)), (375, (.aload_n 1, 1)), (376, (.aload_n 0, 1)), (377, (.iload_n 3, 1)), (378, (.iconst 1, 1)), (379, (.iadd, 1)), (380, (.iaload, 1)), (381, (.aload_n 0, 1)), (382, (.iload_n 3, 1)), (383, (.iconst 2, 1)), (384, (.iadd, 1)), (385, (.iaload, 1)), (386, (.invokevirtual 45, 3)), (389, (.pop, 1)), (390, (.aload_n 2, 1)), (391, (.aload_n 0, 1)), (392, (.iload_n 3, 1))] = true := by decide +kernel
theorem dl_362 : decode code 362 = .ok (.iaload, 1) := zdcg 0 zdT_dl_362 rfl
theorem dl_363 : decode code 363 = .ok (.aload_n 0, 1) := zdcg 1 zdT_dl_362 rfl
theorem dl_364 : decode code 364 = .ok (.iload_n 3, 1) := zdcg 2 zdT_dl_362 rfl
theorem dl_365 : decode code 365 = .ok (.iconst 2, 1) := zdcg 3 zdT_dl_362 rfl
theorem dl_366 : decode code 366 = .ok (.iadd, 1) := zdcg 4 zdT_dl_362 rfl
theorem dl_367 : decode code 367 = .ok (.iaload, 1) := zdcg 5 zdT_dl_362 rfl
theorem dl_368 : decode code 368 = .ok (.invokevirtual 44, 3) := zdcg 6 zdT_dl_362 rfl
theorem dl_371 : decode code 371 = .ok (.pop, 1) := zdcg 7 zdT_dl_362 rfl
theorem dl_372 : decode code 372 = .ok (.goto 614, 3) := zdcg 8 zdT_dl_362 rfl
theorem dl_375 : decode code 375 = .ok (.aload_n 1, 1) := zdcg 9 zdT_dl_362 rfl
theorem dl_376 : decode code 376 = .ok (.aload_n 0, 1) := zdcg 10 zdT_dl_362 rfl
theorem dl_377 : decode code 377 = .ok (.iload_n 3, 1) := zdcg 11 zdT_dl_362 rfl
theorem dl_378 : decode code 378 = .ok (.iconst 1, 1) := zdcg 12 zdT_dl_362 rfl
theorem dl_379 : decode code 379 = .ok (.iadd, 1) := zdcg 13 zdT_dl_362 rfl
theorem dl_380 : decode code 380 = .ok (.iaload, 1) := zdcg 14 zdT_dl_362 rfl
theorem dl_381 : decode code 381 = .ok (.aload_n 0, 1) := zdcg 15 zdT_dl_362 rfl
theorem dl_382 : decode code 382 = .ok (.iload_n 3, 1) := zdcg 16 zdT_dl_362 rfl
theorem dl_383 : decode code 383 = .ok (.iconst 2, 1) := zdcg 17 zdT_dl_362 rfl
theorem dl_384 : decode code 384 = .ok (.iadd, 1) := zdcg 18 zdT_dl_362 rfl
theorem dl_385 : decode code 385 = .ok (.iaload, 1) := zdcg 19 zdT_dl_362 rfl
theorem dl_386 : decode code 386 = .ok (.invokevirtual 45, 3) := zdcg 20 zdT_dl_362 rfl
theorem dl_389 : decode code 389 = .ok (.pop, 1) := zdcg 21 zdT_dl_362 rfl
theorem dl_390 : decode code 390 = .ok (.aload_n 2, 1) := zdcg 22 zdT_dl_362 rfl
theorem dl_391 : decode code 391 = .ok (.aload_n 0, 1) := zdcg 23 zdT_dl_362 rfl
theorem dl_392 : decode code 392 = .ok (.iload_n 3, 1) := zdcg 24 zdT_dl_362 rfl
theorem zdT_dl_393 : zdch code [(393, (.iconst 1, 1)), (394, (.iadd, 1)), (395, (.iaload, 1)), (396, (.aload_n 0, 1)), (397, (.iload_n 3, 1)), (398, (.iconst 2, 1)), (399, (.iadd, 1)), (400, (.iaload, 1)), (401, (.invokevirtual 48, 3)), (404, (.pop, 1)), (405, (.goto 581, 3)), (408, (.aload_n 1, 1)), (409, (.aload_n 0, 1)), (410, (.iload_n 3, 1)), (411, (.iconst 1, 1)), (412, (.iadd, 1))] = true := by decide +kernel
theorem dl_393 : decode code 393 = .ok (.iconst 1, 1) := zdcg 0 zdT_dl_393 rfl
theorem dl_394 : decode code 394 = .ok (.iadd, 1) := zdcg 1 zdT_dl_393 rfl
theorem dl_395 : decode code 395 = .ok (.iaload, 1) := zdcg 2 zdT_dl_393 rfl
theorem dl_396 : decode code 396 = .ok (.aload_n 0, 1) := zdcg 3 zdT_dl_393 rfl
theorem dl_397 : decode code 397 = .ok (.iload_n 3, 1) := zdcg 4 zdT_dl_393 rfl
theorem dl_398 : decode code 398 = .ok (.iconst 2, 1) := zdcg 5 zdT_dl_393 rfl
theorem dl_399 : decode code 399 = .ok (.iadd, 1) := zdcg 6 zdT_dl_393 rfl
theorem dl_400 : decode code 400 = .ok (.iaload, 1) := zdcg 7 zdT_dl_393 rfl
theorem dl_401 : decode code 401 = .ok (.invokevirtual 48, 3) := zdcg 8 zdT_dl_393 rfl
theorem dl_404 : decode code 404 = .ok (.pop, 1) := zdcg 9 zdT_dl_393 rfl
theorem dl_405 : decode code 405 = .ok (.goto 581, 3) := zdcg 10 zdT_dl_393 rfl
theorem dl_408 : decode code 408 = .ok (.aload_n 1, 1) := zdcg 11 zdT_dl_393 rfl
theorem dl_409 : decode code 409 = .ok (.aload_n 0, 1) := zdcg 12 zdT_dl_393 rfl
theorem dl_410 : decode code 410 = .ok (.iload_n 3, 1) := zdcg 13 zdT_dl_393 rfl
theorem dl_411 : decode code 411 = .ok (.iconst 1, 1) := zdcg 14 zdT_dl_393 rfl
theorem dl_412 : decode code 412 = .ok (.iadd, 1) := zdcg 15 zdT_dl_393 rfl
end
