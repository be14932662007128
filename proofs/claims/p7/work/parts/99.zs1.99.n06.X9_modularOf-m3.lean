section
/-! the reference by summaries, by program -/
noncomputable def h0_X9_modularOf_517 : zH 5 := (show zT 5 from ((((((25, 63, bg_463), (0, 11, bg_199)), ((0, 11, bg_200), (0, 456, bg_100))), (((0, 7, 0x100000000010000000001000000000100000000010000000001000000000100000000), (0, 66, bg_6)), ((0, 6, 0x10000000001000000000100000000010000000001000000000100000000), (0, 7, 0x100000000010000000001000000000100000000010000000001000000000100000000)))), ((((10, 46656, 37449), (11, 720, 37449)), ((0, 11, bg_13), (0, 12000, zun 40 12000 4294967296))), (((0, 12000, zun 40 12000 4294967296), (0, 2816, zun 40 2816 4294967296)), ((0, 256, zun 40 256 4294967296), (0, 11, zun 40 11 4294967296))))), (((((0, 11, bg_432), (0, 0, 0)), zO1), zO2), zO3)), (17, (0, 0)))
noncomputable def h1_X9_modularOf_517 : zH 5 := (show zT 5 from ((((((25, 63, bg_463), (0, 11, bg_199)), ((0, 11, bg_200), (0, 456, bg_100))), (((0, 7, 0x6000000000500000000040000000003000000000200000000010100000000), (0, 66, bg_6)), ((0, 6, 0x10000000001000000000100000000010000000001000000000100000000), (0, 7, 0x100000000010000000001000000000100000000010000000001000000000100000000)))), ((((10, 46656, 37449), (11, 720, 37449)), ((0, 11, bg_13), (0, 12000, zun 40 12000 4294967296))), (((0, 12000, zun 40 12000 4294967296), (0, 2816, zun 40 2816 4294967296)), ((0, 256, zun 40 256 4294967296), (0, 11, zun 40 11 4294967296))))), (((((0, 11, bg_432), (0, 0, 0)), zO1), zO2), zO3)), (17, (0, 0)))
theorem ev_X9_modularOf_517 : f_X9_modularOfa [zR 1, zI 10] h0_X9_modularOf_517 (zrk (zI 4294967296) h1_X9_modularOf_517) = true := by decide +kernel
noncomputable def g_X9_modularOf_517 {d : Nat} : List zV → zH d → zP d → Bool := zsmyM [(0, 0), (1, 21), (1, 20), (1, 22), (1, 33), (1, 3), (1, 31), (1, 32), (1, 26), (1, 27), (1, 4), (1, 29), (1, 30), (1, 35), (1, 34), (1, 36), (1, 6)] [zR 1, zI 10] h0_X9_modularOf_517 (zI 4294967296) h1_X9_modularOf_517
theorem mg_X9_modularOf_517 {d : Nat} : zMet (d := d) X_X9_modularOf yX9_modularOf 19 g_X9_modularOf_517 := zMet_smM m_X9_modularOfa ev_X9_modularOf_517
set_option maxRecDepth 100000 in
noncomputable def gs_X9_modularOf {d : Nat} : List zV → zH d → zP d → Bool := zwt (hsK (hsK (hsK (hsF 0 [] 0) (hsF 0 [] 1)) (hsF 0 [] 25)) (hsL 1)) [(2150630401, g_X9_modularOf_0), (2151678977, g_X9_modularOf_1), (2153776129, g_X9_modularOf_2), (2155873281, g_X9_modularOf_3), (3224372226, g_X9_modularOf_4), (3225420801, g_X9_modularOf_5), (3225420802, g_X9_modularOf_6), (3225421825, g_X9_modularOf_7), (3225421826, g_X9_modularOf_8), (3227517953, g_X9_modularOf_9), (3227517954, g_X9_modularOf_10), (3227518977, g_X9_modularOf_11), (3227518978, g_X9_modularOf_12), (3229615105, g_X9_modularOf_13), (3229615106, g_X9_modularOf_14), (3229616129, g_X9_modularOf_15), (3229616130, g_X9_modularOf_16), (4298114049, g_X9_modularOf_17), (4298114051, g_X9_modularOf_18), (4298115073, g_X9_modularOf_19), (4298115075, g_X9_modularOf_20), (4299162626, g_X9_modularOf_21), (4299162627, g_X9_modularOf_22), (4299163650, g_X9_modularOf_23), (4299163651, g_X9_modularOf_24), (4301259777, g_X9_modularOf_25), (4301259778, g_X9_modularOf_26), (4301259779, g_X9_modularOf_27), (4301260801, g_X9_modularOf_28), (4301260802, g_X9_modularOf_29), (4301260803, g_X9_modularOf_30), (4301261825, g_X9_modularOf_31), (4301261826, g_X9_modularOf_32), (4301261827, g_X9_modularOf_33), (4303356929, g_X9_modularOf_34), (4303356930, g_X9_modularOf_35), (4303356931, g_X9_modularOf_36), (4303357953, g_X9_modularOf_37), (4303357954, g_X9_modularOf_38), (4303357955, g_X9_modularOf_39), (4303358977, g_X9_modularOf_40), (4303358978, g_X9_modularOf_41), (4303358979, g_X9_modularOf_42), (5371855874, g_X9_modularOf_43), (5371855877, g_X9_modularOf_44), (5371856898, g_X9_modularOf_45), (5371856901, g_X9_modularOf_46), (5372904449, g_X9_modularOf_47), (5372904451, g_X9_modularOf_48), (5372904452, g_X9_modularOf_49), (5372904453, g_X9_modularOf_50), (5372905473, g_X9_modularOf_51), (5372905475, g_X9_modularOf_52), (5372905476, g_X9_modularOf_53), (5372905477, g_X9_modularOf_54), (5372906497, g_X9_modularOf_55), (5372906499, g_X9_modularOf_56), (5372906500, g_X9_modularOf_57), (5372906501, g_X9_modularOf_58), (5372907521, g_X9_modularOf_59), (5372907523, g_X9_modularOf_60), (5372907524, g_X9_modularOf_61), (5372907525, g_X9_modularOf_62), (5375001601, g_X9_modularOf_63), (5375001602, g_X9_modularOf_64), (5375001603, g_X9_modularOf_65), (5375001604, g_X9_modularOf_66), (5375001605, g_X9_modularOf_67), (5375002625, g_X9_modularOf_68), (5375002626, g_X9_modularOf_69), (5375002627, g_X9_modularOf_70), (5375002628, g_X9_modularOf_71), (5375002629, g_X9_modularOf_72), (5375003649, g_X9_modularOf_73), (5375003650, g_X9_modularOf_74), (5375003651, g_X9_modularOf_75), (5375003652, g_X9_modularOf_76), (5375003653, g_X9_modularOf_77), (5375004673, g_X9_modularOf_78), (5375004674, g_X9_modularOf_79), (5375004675, g_X9_modularOf_80), (5375004676, g_X9_modularOf_81), (5375004677, g_X9_modularOf_82), (5375005697, g_X9_modularOf_83), (5375005698, g_X9_modularOf_84), (5375005699, g_X9_modularOf_85), (5375005700, g_X9_modularOf_86), (5375005701, g_X9_modularOf_87), (5377098753, g_X9_modularOf_88), (5377098754, g_X9_modularOf_89), (5377098755, g_X9_modularOf_90), (5377098756, g_X9_modularOf_91), (5377098757, g_X9_modularOf_92), (5377099777, g_X9_modularOf_93), (5377099778, g_X9_modularOf_94), (5377099779, g_X9_modularOf_95), (5377099780, g_X9_modularOf_96), (5377099781, g_X9_modularOf_97), (5377100801, g_X9_modularOf_98), (5377100802, g_X9_modularOf_99), (5377100803, g_X9_modularOf_100), (5377100804, g_X9_modularOf_101), (5377100805, g_X9_modularOf_102), (5377101825, g_X9_modularOf_103), (5377101826, g_X9_modularOf_104), (5377101827, g_X9_modularOf_105), (5377101828, g_X9_modularOf_106), (5377101829, g_X9_modularOf_107), (5377102849, g_X9_modularOf_108), (5377102850, g_X9_modularOf_109), (5377102851, g_X9_modularOf_110), (5377102852, g_X9_modularOf_111), (5377102853, g_X9_modularOf_112), (6445597697, g_X9_modularOf_113), (6445597700, g_X9_modularOf_114), (6445597703, g_X9_modularOf_115), (6445598721, g_X9_modularOf_116), (6445598724, g_X9_modularOf_117), (6445598727, g_X9_modularOf_118), (6445599745, g_X9_modularOf_119), (6445599748, g_X9_modularOf_120), (6445599751, g_X9_modularOf_121), (6446646273, g_X9_modularOf_122), (6446646274, g_X9_modularOf_123), (6446646277, g_X9_modularOf_124), (6446646278, g_X9_modularOf_125), (6446646279, g_X9_modularOf_126), (6446647297, g_X9_modularOf_127), (6446647298, g_X9_modularOf_128), (6446647301, g_X9_modularOf_129), (6446647302, g_X9_modularOf_130), (6446647303, g_X9_modularOf_131), (6446648321, g_X9_modularOf_132), (6446648322, g_X9_modularOf_133), (6446648325, g_X9_modularOf_134), (6446648326, g_X9_modularOf_135), (6446648327, g_X9_modularOf_136), (6446649345, g_X9_modularOf_137), (6446649346, g_X9_modularOf_138), (6446649349, g_X9_modularOf_139), (6446649350, g_X9_modularOf_140), (6446649351, g_X9_modularOf_141), (6446650369, g_X9_modularOf_142), (6446650370, g_X9_modularOf_143), (6446650373, g_X9_modularOf_144), (6446650374, g_X9_modularOf_145), (6446650375, g_X9_modularOf_146), (6448743426, g_X9_modularOf_147), (6448743427, g_X9_modularOf_148), (6448743428, g_X9_modularOf_149), (6448743429, g_X9_modularOf_150), (6448743430, g_X9_modularOf_151), (6448743431, g_X9_modularOf_152), (6448744450, g_X9_modularOf_153), (6448744451, g_X9_modularOf_154), (6448744452, g_X9_modularOf_155), (6448744453, g_X9_modularOf_156), (6448744454, g_X9_modularOf_157), (6448744455, g_X9_modularOf_158), (6448745474, g_X9_modularOf_159), (6448745475, g_X9_modularOf_160), (6448745476, g_X9_modularOf_161), (6448745477, g_X9_modularOf_162), (6448745478, g_X9_modularOf_163), (6448745479, g_X9_modularOf_164), (6448746498, g_X9_modularOf_165), (6448746499, g_X9_modularOf_166), (6448746500, g_X9_modularOf_167), (6448746501, g_X9_modularOf_168), (6448746502, g_X9_modularOf_169), (6448746503, g_X9_modularOf_170), (6448747522, g_X9_modularOf_171), (6448747523, g_X9_modularOf_172), (6448747524, g_X9_modularOf_173), (6448747525, g_X9_modularOf_174), (6448747526, g_X9_modularOf_175), (6448747527, g_X9_modularOf_176), (6448748546, g_X9_modularOf_177), (6448748547, g_X9_modularOf_178), (6448748548, g_X9_modularOf_179), (6448748549, g_X9_modularOf_180), (6448748550, g_X9_modularOf_181), (6448748551, g_X9_modularOf_182), (6450840577, g_X9_modularOf_183), (6450840578, g_X9_modularOf_184), (6450840579, g_X9_modularOf_185), (6450840580, g_X9_modularOf_186), (6450840581, g_X9_modularOf_187), (6450840582, g_X9_modularOf_188), (6450840583, g_X9_modularOf_189), (6450841601, g_X9_modularOf_190), (6450841602, g_X9_modularOf_191), (6450841603, g_X9_modularOf_192), (6450841604, g_X9_modularOf_193), (6450841605, g_X9_modularOf_194), (6450841606, g_X9_modularOf_195), (6450841607, g_X9_modularOf_196), (6450842625, g_X9_modularOf_197), (6450842626, g_X9_modularOf_198), (6450842627, g_X9_modularOf_199), (6450842628, g_X9_modularOf_200), (6450842629, g_X9_modularOf_201), (6450842630, g_X9_modularOf_202), (6450842631, g_X9_modularOf_203), (6450843649, g_X9_modularOf_204), (6450843650, g_X9_modularOf_205), (6450843651, g_X9_modularOf_206), (6450843652, g_X9_modularOf_207), (6450843653, g_X9_modularOf_208), (6450843654, g_X9_modularOf_209), (6450843655, g_X9_modularOf_210), (6450844673, g_X9_modularOf_211), (6450844674, g_X9_modularOf_212), (6450844675, g_X9_modularOf_213), (6450844676, g_X9_modularOf_214), (6450844677, g_X9_modularOf_215), (6450844678, g_X9_modularOf_216), (6450844679, g_X9_modularOf_217), (6450845697, g_X9_modularOf_218), (6450845698, g_X9_modularOf_219), (6450845699, g_X9_modularOf_220), (6450845700, g_X9_modularOf_221), (6450845701, g_X9_modularOf_222), (6450845702, g_X9_modularOf_223), (6450845703, g_X9_modularOf_224), (6450846721, g_X9_modularOf_225), (6450846722, g_X9_modularOf_226), (6450846723, g_X9_modularOf_227), (6450846724, g_X9_modularOf_228), (6450846725, g_X9_modularOf_229), (6450846726, g_X9_modularOf_230), (6450846727, g_X9_modularOf_231), (7519339522, g_X9_modularOf_232), (7519339525, g_X9_modularOf_233), (7519339527, g_X9_modularOf_234), (7519339531, g_X9_modularOf_235), (7519340546, g_X9_modularOf_236), (7519340549, g_X9_modularOf_237), (7519340551, g_X9_modularOf_238), (7519340555, g_X9_modularOf_239), (7519341570, g_X9_modularOf_240), (7519341573, g_X9_modularOf_241), (7519341575, g_X9_modularOf_242), (7519341579, g_X9_modularOf_243), (7519344642, g_X9_modularOf_244), (7519344645, g_X9_modularOf_245), (7519344647, g_X9_modularOf_246), (7519344651, g_X9_modularOf_247), (7520388098, g_X9_modularOf_248), (7520388099, g_X9_modularOf_249), (7520388100, g_X9_modularOf_250), (7520388104, g_X9_modularOf_251), (7520388105, g_X9_modularOf_252), (7520388106, g_X9_modularOf_253), (7520388107, g_X9_modularOf_254), (7520389122, g_X9_modularOf_255), (7520389123, g_X9_modularOf_256), (7520389124, g_X9_modularOf_257), (7520389128, g_X9_modularOf_258), (7520389129, g_X9_modularOf_259), (7520389130, g_X9_modularOf_260), (7520389131, g_X9_modularOf_261), (7520390146, g_X9_modularOf_262), (7520390147, g_X9_modularOf_263), (7520390148, g_X9_modularOf_264), (7520390152, g_X9_modularOf_265), (7520390153, g_X9_modularOf_266), (7520390154, g_X9_modularOf_267), (7520390155, g_X9_modularOf_268), (7520391170, g_X9_modularOf_269), (7520391171, g_X9_modularOf_270), (7520391172, g_X9_modularOf_271), (7520391176, g_X9_modularOf_272), (7520391177, g_X9_modularOf_273), (7520391178, g_X9_modularOf_274), (7520391179, g_X9_modularOf_275), (7520392194, g_X9_modularOf_276), (7520392195, g_X9_modularOf_277), (7520392196, g_X9_modularOf_278), (7520392200, g_X9_modularOf_279), (7520392201, g_X9_modularOf_280), (7520392202, g_X9_modularOf_281), (7520392203, g_X9_modularOf_282), (7520393218, g_X9_modularOf_283), (7520393219, g_X9_modularOf_284), (7520393220, g_X9_modularOf_285), (7520393224, g_X9_modularOf_286), (7520393225, g_X9_modularOf_287), (7520393226, g_X9_modularOf_288), (7520393227, g_X9_modularOf_289), (7520396290, g_X9_modularOf_290), (7520396291, g_X9_modularOf_291), (7520396292, g_X9_modularOf_292), (7520396296, g_X9_modularOf_293), (7520396297, g_X9_modularOf_294), (7520396298, g_X9_modularOf_295), (7520396299, g_X9_modularOf_296), (7522485249, g_X9_modularOf_297), (7522485251, g_X9_modularOf_298), (7522485252, g_X9_modularOf_299), (7522485253, g_X9_modularOf_300), (7522485254, g_X9_modularOf_301), (7522485255, g_X9_modularOf_302), (7522485256, g_X9_modularOf_303), (7522485257, g_X9_modularOf_304), (7522485258, g_X9_modularOf_305), (7522485259, g_X9_modularOf_306), (7522486273, g_X9_modularOf_307), (7522486275, g_X9_modularOf_308), (7522486276, g_X9_modularOf_309), (7522486277, g_X9_modularOf_310), (7522486278, g_X9_modularOf_311), (7522486279, g_X9_modularOf_312), (7522486280, g_X9_modularOf_313), (7522486281, g_X9_modularOf_314), (7522486282, g_X9_modularOf_315), (7522486283, g_X9_modularOf_316), (7522487297, g_X9_modularOf_317), (7522487299, g_X9_modularOf_318), (7522487300, g_X9_modularOf_319), (7522487301, g_X9_modularOf_320), (7522487302, g_X9_modularOf_321), (7522487303, g_X9_modularOf_322), (7522487304, g_X9_modularOf_323), (7522487305, g_X9_modularOf_324), (7522487306, g_X9_modularOf_325), (7522487307, g_X9_modularOf_326), (7522488321, g_X9_modularOf_327), (7522488323, g_X9_modularOf_328), (7522488324, g_X9_modularOf_329), (7522488325, g_X9_modularOf_330), (7522488326, g_X9_modularOf_331), (7522488327, g_X9_modularOf_332), (7522488328, g_X9_modularOf_333), (7522488329, g_X9_modularOf_334), (7522488330, g_X9_modularOf_335), (7522488331, g_X9_modularOf_336), (7522489345, g_X9_modularOf_337), (7522489347, g_X9_modularOf_338), (7522489348, g_X9_modularOf_339), (7522489349, g_X9_modularOf_340), (7522489350, g_X9_modularOf_341), (7522489351, g_X9_modularOf_342), (7522489352, g_X9_modularOf_343), (7522489353, g_X9_modularOf_344), (7522489354, g_X9_modularOf_345), (7522489355, g_X9_modularOf_346), (7522490369, g_X9_modularOf_347), (7522490371, g_X9_modularOf_348), (7522490372, g_X9_modularOf_349), (7522490373, g_X9_modularOf_350), (7522490374, g_X9_modularOf_351), (7522490375, g_X9_modularOf_352), (7522490376, g_X9_modularOf_353), (7522490377, g_X9_modularOf_354), (7522490378, g_X9_modularOf_355), (7522490379, g_X9_modularOf_356), (7522491393, g_X9_modularOf_357), (7522491395, g_X9_modularOf_358), (7522491396, g_X9_modularOf_359), (7522491397, g_X9_modularOf_360), (7522491398, g_X9_modularOf_361), (7522491399, g_X9_modularOf_362), (7522491400, g_X9_modularOf_363), (7522491401, g_X9_modularOf_364), (7522491402, g_X9_modularOf_365), (7522491403, g_X9_modularOf_366), (7522492417, g_X9_modularOf_367), (7522492419, g_X9_modularOf_368), (7522492420, g_X9_modularOf_369), (7522492421, g_X9_modularOf_370), (7522492422, g_X9_modularOf_371), (7522492423, g_X9_modularOf_372), (7522492424, g_X9_modularOf_373), (7522492425, g_X9_modularOf_374), (7522492426, g_X9_modularOf_375), (7522492427, g_X9_modularOf_376), (7522493441, g_X9_modularOf_377), (7522493443, g_X9_modularOf_378), (7522493444, g_X9_modularOf_379), (7522493445, g_X9_modularOf_380), (7522493446, g_X9_modularOf_381), (7522493447, g_X9_modularOf_382), (7522493448, g_X9_modularOf_383), (7522493449, g_X9_modularOf_384), (7522493450, g_X9_modularOf_385), (7522493451, g_X9_modularOf_386), (7522494465, g_X9_modularOf_387), (7522494467, g_X9_modularOf_388), (7522494468, g_X9_modularOf_389), (7522494469, g_X9_modularOf_390), (7522494470, g_X9_modularOf_391), (7522494471, g_X9_modularOf_392), (7522494472, g_X9_modularOf_393), (7522494473, g_X9_modularOf_394), (7522494474, g_X9_modularOf_395), (7522494475, g_X9_modularOf_396), (7524582401, g_X9_modularOf_397), (7524582402, g_X9_modularOf_398), (7524582403, g_X9_modularOf_399), (7524582404, g_X9_modularOf_400), (7524582405, g_X9_modularOf_401), (7524582406, g_X9_modularOf_402), (7524582407, g_X9_modularOf_403), (7524582408, g_X9_modularOf_404), (7524582409, g_X9_modularOf_405), (7524582410, g_X9_modularOf_406), (7524582411, g_X9_modularOf_407), (7524583425, g_X9_modularOf_408), (7524583426, g_X9_modularOf_409), (7524583427, g_X9_modularOf_410), (7524583428, g_X9_modularOf_411), (7524583429, g_X9_modularOf_412), (7524583430, g_X9_modularOf_413), (7524583431, g_X9_modularOf_414), (7524583432, g_X9_modularOf_415), (7524583433, g_X9_modularOf_416), (7524583434, g_X9_modularOf_417), (7524583435, g_X9_modularOf_418), (7524584449, g_X9_modularOf_419), (7524584450, g_X9_modularOf_420), (7524584451, g_X9_modularOf_421), (7524584452, g_X9_modularOf_422), (7524584453, g_X9_modularOf_423), (7524584454, g_X9_modularOf_424), (7524584455, g_X9_modularOf_425), (7524584456, g_X9_modularOf_426), (7524584457, g_X9_modularOf_427), (7524584458, g_X9_modularOf_428), (7524584459, g_X9_modularOf_429), (7524585473, g_X9_modularOf_430), (7524585474, g_X9_modularOf_431), (7524585475, g_X9_modularOf_432), (7524585476, g_X9_modularOf_433), (7524585477, g_X9_modularOf_434), (7524585478, g_X9_modularOf_435), (7524585479, g_X9_modularOf_436), (7524585480, g_X9_modularOf_437), (7524585481, g_X9_modularOf_438), (7524585482, g_X9_modularOf_439), (7524585483, g_X9_modularOf_440), (7524586497, g_X9_modularOf_441), (7524586498, g_X9_modularOf_442), (7524586499, g_X9_modularOf_443), (7524586500, g_X9_modularOf_444), (7524586501, g_X9_modularOf_445), (7524586502, g_X9_modularOf_446), (7524586503, g_X9_modularOf_447), (7524586504, g_X9_modularOf_448), (7524586505, g_X9_modularOf_449), (7524586506, g_X9_modularOf_450), (7524586507, g_X9_modularOf_451), (7524587521, g_X9_modularOf_452), (7524587522, g_X9_modularOf_453), (7524587523, g_X9_modularOf_454), (7524587524, g_X9_modularOf_455), (7524587525, g_X9_modularOf_456), (7524587526, g_X9_modularOf_457), (7524587527, g_X9_modularOf_458), (7524587528, g_X9_modularOf_459), (7524587529, g_X9_modularOf_460), (7524587530, g_X9_modularOf_461), (7524587531, g_X9_modularOf_462), (7524588545, g_X9_modularOf_463), (7524588546, g_X9_modularOf_464), (7524588547, g_X9_modularOf_465), (7524588548, g_X9_modularOf_466), (7524588549, g_X9_modularOf_467), (7524588550, g_X9_modularOf_468), (7524588551, g_X9_modularOf_469), (7524588552, g_X9_modularOf_470), (7524588553, g_X9_modularOf_471), (7524588554, g_X9_modularOf_472), (7524588555, g_X9_modularOf_473), (7524589569, g_X9_modularOf_474), (7524589570, g_X9_modularOf_475), (7524589571, g_X9_modularOf_476), (7524589572, g_X9_modularOf_477), (7524589573, g_X9_modularOf_478), (7524589574, g_X9_modularOf_479), (7524589575, g_X9_modularOf_480), (7524589576, g_X9_modularOf_481), (7524589577, g_X9_modularOf_482), (7524589578, g_X9_modularOf_483), (7524589579, g_X9_modularOf_484), (7524590593, g_X9_modularOf_485), (7524590594, g_X9_modularOf_486), (7524590595, g_X9_modularOf_487), (7524590596, g_X9_modularOf_488), (7524590597, g_X9_modularOf_489), (7524590598, g_X9_modularOf_490), (7524590599, g_X9_modularOf_491), (7524590600, g_X9_modularOf_492), (7524590601, g_X9_modularOf_493), (7524590602, g_X9_modularOf_494), (7524590603, g_X9_modularOf_495), (7524591617, g_X9_modularOf_496), (7524591618, g_X9_modularOf_497), (7524591619, g_X9_modularOf_498), (7524591620, g_X9_modularOf_499), (7524591621, g_X9_modularOf_500), (7524591622, g_X9_modularOf_501), (7524591623, g_X9_modularOf_502), (7524591624, g_X9_modularOf_503), (7524591625, g_X9_modularOf_504), (7524591626, g_X9_modularOf_505), (7524591627, g_X9_modularOf_506), (7524592641, g_X9_modularOf_507), (7524592642, g_X9_modularOf_508), (7524592643, g_X9_modularOf_509), (7524592644, g_X9_modularOf_510), (7524592645, g_X9_modularOf_511), (7524592646, g_X9_modularOf_512), (7524592647, g_X9_modularOf_513), (7524592648, g_X9_modularOf_514), (7524592649, g_X9_modularOf_515), (7524592650, g_X9_modularOf_516), (7524592651, g_X9_modularOf_517)]
set_option maxRecDepth 100000 in
theorem mgs_X9_modularOf {d : Nat} : zMet (d := d) X_X9_modularOf yX9_modularOf 19 gs_X9_modularOf := zMet_wt (hsK_ok (hsK_ok (hsK_ok hsF_ok hsF_ok) hsF_ok) hsL_ok) (zwt_c mg_X9_modularOf_0 (zwt_c mg_X9_modularOf_1 (zwt_c mg_X9_modularOf_2 (zwt_c mg_X9_modularOf_3 (zwt_c mg_X9_modularOf_4 (zwt_c mg_X9_modularOf_5 (zwt_c mg_X9_modularOf_6 (zwt_c mg_X9_modularOf_7 (zwt_c mg_X9_modularOf_8 (zwt_c mg_X9_modularOf_9 (zwt_c mg_X9_modularOf_10 (zwt_c mg_X9_modularOf_11 (zwt_c mg_X9_modularOf_12 (zwt_c mg_X9_modularOf_13 (zwt_c mg_X9_modularOf_14 (zwt_c mg_X9_modularOf_15 (zwt_c mg_X9_modularOf_16 (zwt_c mg_X9_modularOf_17 (zwt_c mg_X9_modularOf_18 (zwt_c mg_X9_modularOf_19 (zwt_c mg_X9_modularOf_20 (zwt_c mg_X9_modularOf_21 (zwt_c mg_X9_modularOf_22 (zwt_c mg_X9_modularOf_23 (zwt_c mg_X9_modularOf_24 (zwt_c mg_X9_modularOf_25 (zwt_c mg_X9_modularOf_26 (zwt_c mg_X9_modularOf_27 (zwt_c mg_X9_modularOf_28 (zwt_c mg_X9_modularOf_29 (zwt_c mg_X9_modularOf_30 (zwt_c mg_X9_modularOf_31 (zwt_c mg_X9_modularOf_32 (zwt_c mg_X9_modularOf_33 (zwt_c mg_X9_modularOf_34 (zwt_c mg_X9_modularOf_35 (zwt_c mg_X9_modularOf_36 (zwt_c mg_X9_modularOf_37 (zwt_c mg_X9_modularOf_38 (zwt_c mg_X9_modularOf_39 (zwt_c mg_X9_modularOf_40 (zwt_c mg_X9_modularOf_41 (zwt_c mg_X9_modularOf_42 (zwt_c mg_X9_modularOf_43 (zwt_c mg_X9_modularOf_44 (zwt_c mg_X9_modularOf_45 (zwt_c mg_X9_modularOf_46 (zwt_c mg_X9_modularOf_47 (zwt_c mg_X9_modularOf_48 (zwt_c mg_X9_modularOf_49 (zwt_c mg_X9_modularOf_50 (zwt_c mg_X9_modularOf_51 (zwt_c mg_X9_modularOf_52 (zwt_c mg_X9_modularOf_53 (zwt_c mg_X9_modularOf_54 (zwt_c mg_X9_modularOf_55 (zwt_c mg_X9_modularOf_56 (zwt_c mg_X9_modularOf_57 (zwt_c mg_X9_modularOf_58 (zwt_c mg_X9_modularOf_59 (zwt_c mg_X9_modularOf_60 (zwt_c mg_X9_modularOf_61 (zwt_c mg_X9_modularOf_62 (zwt_c mg_X9_modularOf_63 (zwt_c mg_X9_modularOf_64 (zwt_c mg_X9_modularOf_65 (zwt_c mg_X9_modularOf_66 (zwt_c mg_X9_modularOf_67 (zwt_c mg_X9_modularOf_68 (zwt_c mg_X9_modularOf_69 (zwt_c mg_X9_modularOf_70 (zwt_c mg_X9_modularOf_71 (zwt_c mg_X9_modularOf_72 (zwt_c mg_X9_modularOf_73 (zwt_c mg_X9_modularOf_74 (zwt_c mg_X9_modularOf_75 (zwt_c mg_X9_modularOf_76 (zwt_c mg_X9_modularOf_77 (zwt_c mg_X9_modularOf_78 (zwt_c mg_X9_modularOf_79 (zwt_c mg_X9_modularOf_80 (zwt_c mg_X9_modularOf_81 (zwt_c mg_X9_modularOf_82 (zwt_c mg_X9_modularOf_83 (zwt_c mg_X9_modularOf_84 (zwt_c mg_X9_modularOf_85 (zwt_c mg_X9_modularOf_86 (zwt_c mg_X9_modularOf_87 (zwt_c mg_X9_modularOf_88 (zwt_c mg_X9_modularOf_89 (zwt_c mg_X9_modularOf_90 (zwt_c mg_X9_modularOf_91 (zwt_c mg_X9_modularOf_92 (zwt_c mg_X9_modularOf_93 (zwt_c mg_X9_modularOf_94 (zwt_c mg_X9_modularOf_95 (zwt_c mg_X9_modularOf_96 (zwt_c mg_X9_modularOf_97 (zwt_c mg_X9_modularOf_98 (zwt_c mg_X9_modularOf_99 (zwt_c mg_X9_modularOf_100 (zwt_c mg_X9_modularOf_101 (zwt_c mg_X9_modularOf_102 (zwt_c mg_X9_modularOf_103 (zwt_c mg_X9_modularOf_104 (zwt_c mg_X9_modularOf_105 (zwt_c mg_X9_modularOf_106 (zwt_c mg_X9_modularOf_107 (zwt_c mg_X9_modularOf_108 (zwt_c mg_X9_modularOf_109 (zwt_c mg_X9_modularOf_110 (zwt_c mg_X9_modularOf_111 (zwt_c mg_X9_modularOf_112 (zwt_c mg_X9_modularOf_113 (zwt_c mg_X9_modularOf_114 (zwt_c mg_X9_modularOf_115 (zwt_c mg_X9_modularOf_116 (zwt_c mg_X9_modularOf_117 (zwt_c mg_X9_modularOf_118 (zwt_c mg_X9_modularOf_119 (zwt_c mg_X9_modularOf_120 (zwt_c mg_X9_modularOf_121 (zwt_c mg_X9_modularOf_122 (zwt_c mg_X9_modularOf_123 (zwt_c mg_X9_modularOf_124 (zwt_c mg_X9_modularOf_125 (zwt_c mg_X9_modularOf_126 (zwt_c mg_X9_modularOf_127 (zwt_c mg_X9_modularOf_128 (zwt_c mg_X9_modularOf_129 (zwt_c mg_X9_modularOf_130 (zwt_c mg_X9_modularOf_131 (zwt_c mg_X9_modularOf_132 (zwt_c mg_X9_modularOf_133 (zwt_c mg_X9_modularOf_134 (zwt_c mg_X9_modularOf_135 (zwt_c mg_X9_modularOf_136 (zwt_c mg_X9_modularOf_137 (zwt_c mg_X9_modularOf_138 (zwt_c mg_X9_modularOf_139 (zwt_c mg_X9_modularOf_140 (zwt_c mg_X9_modularOf_141 (zwt_c mg_X9_modularOf_142 (zwt_c mg_X9_modularOf_143 (zwt_c mg_X9_modularOf_144 (zwt_c mg_X9_modularOf_145 (zwt_c mg_X9_modularOf_146 (zwt_c mg_X9_modularOf_147 (zwt_c mg_X9_modularOf_148 (zwt_c mg_X9_modularOf_149 (zwt_c mg_X9_modularOf_150 (zwt_c mg_X9_modularOf_151 (zwt_c mg_X9_modularOf_152 (zwt_c mg_X9_modularOf_153 (zwt_c mg_X9_modularOf_154 (zwt_c mg_X9_modularOf_155 (zwt_c mg_X9_modularOf_156 (zwt_c mg_X9_modularOf_157 (zwt_c mg_X9_modularOf_158 (zwt_c mg_X9_modularOf_159 (zwt_c mg_X9_modularOf_160 (zwt_c mg_X9_modularOf_161 (zwt_c mg_X9_modularOf_162 (zwt_c mg_X9_modularOf_163 (zwt_c mg_X9_modularOf_164 (zwt_c mg_X9_modularOf_165 (zwt_c mg_X9_modularOf_166 (zwt_c mg_X9_modularOf_167 (zwt_c mg_X9_modularOf_168 (zwt_c mg_X9_modularOf_169 (zwt_c mg_X9_modularOf_170 (zwt_c mg_X9_modularOf_171 (zwt_c mg_X9_modularOf_172 (zwt_c mg_X9_modularOf_173 (zwt_c mg_X9_modularOf_174 (zwt_c mg_X9_modularOf_175 (zwt_c mg_X9_modularOf_176 (zwt_c mg_X9_modularOf_177 (zwt_c mg_X9_modularOf_178 (zwt_c mg_X9_modularOf_179 (zwt_c mg_X9_modularOf_180 (zwt_c mg_X9_modularOf_181 (zwt_c mg_X9_modularOf_182 (zwt_c mg_X9_modularOf_183 (zwt_c mg_X9_modularOf_184 (zwt_c mg_X9_modularOf_185 (zwt_c mg_X9_modularOf_186 (zwt_c mg_X9_modularOf_187 (zwt_c mg_X9_modularOf_188 (zwt_c mg_X9_modularOf_189 (zwt_c mg_X9_modularOf_190 (zwt_c mg_X9_modularOf_191 (zwt_c mg_X9_modularOf_192 (zwt_c mg_X9_modularOf_193 (zwt_c mg_X9_modularOf_194 (zwt_c mg_X9_modularOf_195 (zwt_c mg_X9_modularOf_196 (zwt_c mg_X9_modularOf_197 (zwt_c mg_X9_modularOf_198 (zwt_c mg_X9_modularOf_199 (zwt_c mg_X9_modularOf_200 (zwt_c mg_X9_modularOf_201 (zwt_c mg_X9_modularOf_202 (zwt_c mg_X9_modularOf_203 (zwt_c mg_X9_modularOf_204 (zwt_c mg_X9_modularOf_205 (zwt_c mg_X9_modularOf_206 (zwt_c mg_X9_modularOf_207 (zwt_c mg_X9_modularOf_208 (zwt_c mg_X9_modularOf_209 (zwt_c mg_X9_modularOf_210 (zwt_c mg_X9_modularOf_211 (zwt_c mg_X9_modularOf_212 (zwt_c mg_X9_modularOf_213 (zwt_c mg_X9_modularOf_214 (zwt_c mg_X9_modularOf_215 (zwt_c mg_X9_modularOf_216 (zwt_c mg_X9_modularOf_217 (zwt_c mg_X9_modularOf_218 (zwt_c mg_X9_modularOf_219 (zwt_c mg_X9_modularOf_220 (zwt_c mg_X9_modularOf_221 (zwt_c mg_X9_modularOf_222 (zwt_c mg_X9_modularOf_223 (zwt_c mg_X9_modularOf_224 (zwt_c mg_X9_modularOf_225 (zwt_c mg_X9_modularOf_226 (zwt_c mg_X9_modularOf_227 (zwt_c mg_X9_modularOf_228 (zwt_c mg_X9_modularOf_229 (zwt_c mg_X9_modularOf_230 (zwt_c mg_X9_modularOf_231 (zwt_c mg_X9_modularOf_232 (zwt_c mg_X9_modularOf_233 (zwt_c mg_X9_modularOf_234 (zwt_c mg_X9_modularOf_235 (zwt_c mg_X9_modularOf_236 (zwt_c mg_X9_modularOf_237 (zwt_c mg_X9_modularOf_238 (zwt_c mg_X9_modularOf_239 (zwt_c mg_X9_modularOf_240 (zwt_c mg_X9_modularOf_241 (zwt_c mg_X9_modularOf_242 (zwt_c mg_X9_modularOf_243 (zwt_c mg_X9_modularOf_244 (zwt_c mg_X9_modularOf_245 (zwt_c mg_X9_modularOf_246 (zwt_c mg_X9_modularOf_247 (zwt_c mg_X9_modularOf_248 (zwt_c mg_X9_modularOf_249 (zwt_c mg_X9_modularOf_250 (zwt_c mg_X9_modularOf_251 (zwt_c mg_X9_modularOf_252 (zwt_c mg_X9_modularOf_253 (zwt_c mg_X9_modularOf_254 (zwt_c mg_X9_modularOf_255 (zwt_c mg_X9_modularOf_256 (zwt_c mg_X9_modularOf_257 (zwt_c mg_X9_modularOf_258 (zwt_c mg_X9_modularOf_259 (zwt_c mg_X9_modularOf_260 (zwt_c mg_X9_modularOf_261 (zwt_c mg_X9_modularOf_262 (zwt_c mg_X9_modularOf_263 (zwt_c mg_X9_modularOf_264 (zwt_c mg_X9_modularOf_265 (zwt_c mg_X9_modularOf_266 (zwt_c mg_X9_modularOf_267 (zwt_c mg_X9_modularOf_268 (zwt_c mg_X9_modularOf_269 (zwt_c mg_X9_modularOf_270 (zwt_c mg_X9_modularOf_271 (zwt_c mg_X9_modularOf_272 (zwt_c mg_X9_modularOf_273 (zwt_c mg_X9_modularOf_274 (zwt_c mg_X9_modularOf_275 (zwt_c mg_X9_modularOf_276 (zwt_c mg_X9_modularOf_277 (zwt_c mg_X9_modularOf_278 (zwt_c mg_X9_modularOf_279 (zwt_c mg_X9_modularOf_280 (zwt_c mg_X9_modularOf_281 (zwt_c mg_X9_modularOf_282 (zwt_c mg_X9_modularOf_283 (zwt_c mg_X9_modularOf_284 (zwt_c mg_X9_modularOf_285 (zwt_c mg_X9_modularOf_286 (zwt_c mg_X9_modularOf_287 (zwt_c mg_X9_modularOf_288 (zwt_c mg_X9_modularOf_289 (zwt_c mg_X9_modularOf_290 (zwt_c mg_X9_modularOf_291 (zwt_c mg_X9_modularOf_292 (zwt_c mg_X9_modularOf_293 (zwt_c mg_X9_modularOf_294 (zwt_c mg_X9_modularOf_295 (zwt_c mg_X9_modularOf_296 (zwt_c mg_X9_modularOf_297 (zwt_c mg_X9_modularOf_298 (zwt_c mg_X9_modularOf_299 (zwt_c mg_X9_modularOf_300 (zwt_c mg_X9_modularOf_301 (zwt_c mg_X9_modularOf_302 (zwt_c mg_X9_modularOf_303 (zwt_c mg_X9_modularOf_304 (zwt_c mg_X9_modularOf_305 (zwt_c mg_X9_modularOf_306 (zwt_c mg_X9_modularOf_307 (zwt_c mg_X9_modularOf_308 (zwt_c mg_X9_modularOf_309 (zwt_c mg_X9_modularOf_310 (zwt_c mg_X9_modularOf_311 (zwt_c mg_X9_modularOf_312 (zwt_c mg_X9_modularOf_313 (zwt_c mg_X9_modularOf_314 (zwt_c mg_X9_modularOf_315 (zwt_c mg_X9_modularOf_316 (zwt_c mg_X9_modularOf_317 (zwt_c mg_X9_modularOf_318 (zwt_c mg_X9_modularOf_319 (zwt_c mg_X9_modularOf_320 (zwt_c mg_X9_modularOf_321 (zwt_c mg_X9_modularOf_322 (zwt_c mg_X9_modularOf_323 (zwt_c mg_X9_modularOf_324 (zwt_c mg_X9_modularOf_325 (zwt_c mg_X9_modularOf_326 (zwt_c mg_X9_modularOf_327 (zwt_c mg_X9_modularOf_328 (zwt_c mg_X9_modularOf_329 (zwt_c mg_X9_modularOf_330 (zwt_c mg_X9_modularOf_331 (zwt_c mg_X9_modularOf_332 (zwt_c mg_X9_modularOf_333 (zwt_c mg_X9_modularOf_334 (zwt_c mg_X9_modularOf_335 (zwt_c mg_X9_modularOf_336 (zwt_c mg_X9_modularOf_337 (zwt_c mg_X9_modularOf_338 (zwt_c mg_X9_modularOf_339 (zwt_c mg_X9_modularOf_340 (zwt_c mg_X9_modularOf_341 (zwt_c mg_X9_modularOf_342 (zwt_c mg_X9_modularOf_343 (zwt_c mg_X9_modularOf_344 (zwt_c mg_X9_modularOf_345 (zwt_c mg_X9_modularOf_346 (zwt_c mg_X9_modularOf_347 (zwt_c mg_X9_modularOf_348 (zwt_c mg_X9_modularOf_349 (zwt_c mg_X9_modularOf_350 (zwt_c mg_X9_modularOf_351 (zwt_c mg_X9_modularOf_352 (zwt_c mg_X9_modularOf_353 (zwt_c mg_X9_modularOf_354 (zwt_c mg_X9_modularOf_355 (zwt_c mg_X9_modularOf_356 (zwt_c mg_X9_modularOf_357 (zwt_c mg_X9_modularOf_358 (zwt_c mg_X9_modularOf_359 (zwt_c mg_X9_modularOf_360 (zwt_c mg_X9_modularOf_361 (zwt_c mg_X9_modularOf_362 (zwt_c mg_X9_modularOf_363 (zwt_c mg_X9_modularOf_364 (zwt_c mg_X9_modularOf_365 (zwt_c mg_X9_modularOf_366 (zwt_c mg_X9_modularOf_367 (zwt_c mg_X9_modularOf_368 (zwt_c mg_X9_modularOf_369 (zwt_c mg_X9_modularOf_370 (zwt_c mg_X9_modularOf_371 (zwt_c mg_X9_modularOf_372 (zwt_c mg_X9_modularOf_373 (zwt_c mg_X9_modularOf_374 (zwt_c mg_X9_modularOf_375 (zwt_c mg_X9_modularOf_376 (zwt_c mg_X9_modularOf_377 (zwt_c mg_X9_modularOf_378 (zwt_c mg_X9_modularOf_379 (zwt_c mg_X9_modularOf_380 (zwt_c mg_X9_modularOf_381 (zwt_c mg_X9_modularOf_382 (zwt_c mg_X9_modularOf_383 (zwt_c mg_X9_modularOf_384 (zwt_c mg_X9_modularOf_385 (zwt_c mg_X9_modularOf_386 (zwt_c mg_X9_modularOf_387 (zwt_c mg_X9_modularOf_388 (zwt_c mg_X9_modularOf_389 (zwt_c mg_X9_modularOf_390 (zwt_c mg_X9_modularOf_391 (zwt_c mg_X9_modularOf_392 (zwt_c mg_X9_modularOf_393 (zwt_c mg_X9_modularOf_394 (zwt_c mg_X9_modularOf_395 (zwt_c mg_X9_modularOf_396 (zwt_c mg_X9_modularOf_397 (zwt_c mg_X9_modularOf_398 (zwt_c mg_X9_modularOf_399 (zwt_c mg_X9_modularOf_400 (zwt_c mg_X9_modularOf_401 (zwt_c mg_X9_modularOf_402 (zwt_c mg_X9_modularOf_403 (zwt_c mg_X9_modularOf_404 (zwt_c mg_X9_modularOf_405 (zwt_c mg_X9_modularOf_406 (zwt_c mg_X9_modularOf_407 (zwt_c mg_X9_modularOf_408 (zwt_c mg_X9_modularOf_409 (zwt_c mg_X9_modularOf_410 (zwt_c mg_X9_modularOf_411 (zwt_c mg_X9_modularOf_412 (zwt_c mg_X9_modularOf_413 (zwt_c mg_X9_modularOf_414 (zwt_c mg_X9_modularOf_415 (zwt_c mg_X9_modularOf_416 (zwt_c mg_X9_modularOf_417 (zwt_c mg_X9_modularOf_418 (zwt_c mg_X9_modularOf_419 (zwt_c mg_X9_modularOf_420 (zwt_c mg_X9_modularOf_421 (zwt_c mg_X9_modularOf_422 (zwt_c mg_X9_modularOf_423 (zwt_c mg_X9_modularOf_424 (zwt_c mg_X9_modularOf_425 (zwt_c mg_X9_modularOf_426 (zwt_c mg_X9_modularOf_427 (zwt_c mg_X9_modularOf_428 (zwt_c mg_X9_modularOf_429 (zwt_c mg_X9_modularOf_430 (zwt_c mg_X9_modularOf_431 (zwt_c mg_X9_modularOf_432 (zwt_c mg_X9_modularOf_433 (zwt_c mg_X9_modularOf_434 (zwt_c mg_X9_modularOf_435 (zwt_c mg_X9_modularOf_436 (zwt_c mg_X9_modularOf_437 (zwt_c mg_X9_modularOf_438 (zwt_c mg_X9_modularOf_439 (zwt_c mg_X9_modularOf_440 (zwt_c mg_X9_modularOf_441 (zwt_c mg_X9_modularOf_442 (zwt_c mg_X9_modularOf_443 (zwt_c mg_X9_modularOf_444 (zwt_c mg_X9_modularOf_445 (zwt_c mg_X9_modularOf_446 (zwt_c mg_X9_modularOf_447 (zwt_c mg_X9_modularOf_448 (zwt_c mg_X9_modularOf_449 (zwt_c mg_X9_modularOf_450 (zwt_c mg_X9_modularOf_451 (zwt_c mg_X9_modularOf_452 (zwt_c mg_X9_modularOf_453 (zwt_c mg_X9_modularOf_454 (zwt_c mg_X9_modularOf_455 (zwt_c mg_X9_modularOf_456 (zwt_c mg_X9_modularOf_457 (zwt_c mg_X9_modularOf_458 (zwt_c mg_X9_modularOf_459 (zwt_c mg_X9_modularOf_460 (zwt_c mg_X9_modularOf_461 (zwt_c mg_X9_modularOf_462 (zwt_c mg_X9_modularOf_463 (zwt_c mg_X9_modularOf_464 (zwt_c mg_X9_modularOf_465 (zwt_c mg_X9_modularOf_466 (zwt_c mg_X9_modularOf_467 (zwt_c mg_X9_modularOf_468 (zwt_c mg_X9_modularOf_469 (zwt_c mg_X9_modularOf_470 (zwt_c mg_X9_modularOf_471 (zwt_c mg_X9_modularOf_472 (zwt_c mg_X9_modularOf_473 (zwt_c mg_X9_modularOf_474 (zwt_c mg_X9_modularOf_475 (zwt_c mg_X9_modularOf_476 (zwt_c mg_X9_modularOf_477 (zwt_c mg_X9_modularOf_478 (zwt_c mg_X9_modularOf_479 (zwt_c mg_X9_modularOf_480 (zwt_c mg_X9_modularOf_481 (zwt_c mg_X9_modularOf_482 (zwt_c mg_X9_modularOf_483 (zwt_c mg_X9_modularOf_484 (zwt_c mg_X9_modularOf_485 (zwt_c mg_X9_modularOf_486 (zwt_c mg_X9_modularOf_487 (zwt_c mg_X9_modularOf_488 (zwt_c mg_X9_modularOf_489 (zwt_c mg_X9_modularOf_490 (zwt_c mg_X9_modularOf_491 (zwt_c mg_X9_modularOf_492 (zwt_c mg_X9_modularOf_493 (zwt_c mg_X9_modularOf_494 (zwt_c mg_X9_modularOf_495 (zwt_c mg_X9_modularOf_496 (zwt_c mg_X9_modularOf_497 (zwt_c mg_X9_modularOf_498 (zwt_c mg_X9_modularOf_499 (zwt_c mg_X9_modularOf_500 (zwt_c mg_X9_modularOf_501 (zwt_c mg_X9_modularOf_502 (zwt_c mg_X9_modularOf_503 (zwt_c mg_X9_modularOf_504 (zwt_c mg_X9_modularOf_505 (zwt_c mg_X9_modularOf_506 (zwt_c mg_X9_modularOf_507 (zwt_c mg_X9_modularOf_508 (zwt_c mg_X9_modularOf_509 (zwt_c mg_X9_modularOf_510 (zwt_c mg_X9_modularOf_511 (zwt_c mg_X9_modularOf_512 (zwt_c mg_X9_modularOf_513 (zwt_c mg_X9_modularOf_514 (zwt_c mg_X9_modularOf_515 (zwt_c mg_X9_modularOf_516 (zwt_c mg_X9_modularOf_517 zwt_n))))))))))))))))))))))))))))))))))))))))))))))))))))))))))))))))))))))))))))))))))))))))))))))))))))))))))))))))))))))))))))))))))))))))))))))))))))))))))))))))))))))))))))))))))))))))))))))))))))))))))))))))))))))))))))))))))))))))))))))))))))))))))))))))))))))))))))))))))))))))))))))))))))))))))))))))))))))))))))))))))))))))))))))))))))))))))))))))))))))))))))))))))))))))))))))))))))))))))))))))))))))))))))))))))))))))))))))))))))))))))))))))))))))))))))))))))))))))))))))))))))))))))))))))))))))))))))))))))))))
end
section
/-! the reference by summaries, by program -/
noncomputable def bX9_decomposesa_500 {d : Nat} (P : zP d) (r447 : zK d) : zK d := (xasQ 0 (fun v => v) (xincR 3 1 r447))
set_option maxRecDepth 100000 in
set_option maxHeartbeats 4000000 in
theorem sbX9_decomposesa_500 {d : Nat} [zGh] (P : zP d) (r447 : zK d) (hr447 : zSimJ 1 X_X9_decomposes 2 P 447 r447) : zSim X_X9_decomposes 2 P 500 (bX9_decomposesa_500 P r447) := by
  unfold bX9_decomposesa_500
  refine sm_iastoreQ (pc := 500) dX9_decomposes_500 ?_
  refine sm_iincR (pc := 501) (n := 3) dX9_decomposes_501 zc_i_1 ?_
  refine sm_goto (pc := 504) (tgt := 447) dX9_decomposes_504 (by decide) ?_
  exact hr447.use
noncomputable def cX9_decomposesa_486 {d : Nat} (P : zP d) (r447 : zK d) : zK d := (xjn wkE (zsp [zI 4294967296] 2) (bX9_decomposesa_500 P r447) (fun j500 => (xcmpS tleR rlS rhLe rlGt rhS (xild 4 j500) (xild 4 (xpI 32003 (xbin zsubR j500))))))
set_option maxRecDepth 100000 in
set_option maxHeartbeats 4000000 in
theorem scX9_decomposesa_486 {d : Nat} [zGh] (P : zP d) (r447 : zK d) (hr447 : zSimJ 1 X_X9_decomposes 2 P 447 r447) : zSim X_X9_decomposes 2 P 486 (cX9_decomposesa_486 P r447) := by
  unfold cX9_decomposesa_486
  refine sm_jn (pc := 486) (pc' := 500) (j := 1) wkE_ok (zsp_ok _ _) (fun G0 hG0 => @sbX9_decomposesa_500 d G0 P r447 (hr447.mv hG0 (by decide))) (fun j500 hj500 => ?_)
  refine sm_icmpS_le (pc := 486) (tgt := 498) dX9_decomposes_486 (by decide) ?_ ?_
  · skip
    refine sm_iload (pc := 498) (n := 4) dX9_decomposes_498 ?_
    exact hj500.use
  · skip
    refine sm_iload (pc := 489) (n := 4) dX9_decomposes_489 ?_
    refine sm_sipush (pc := 491) dX9_decomposes_491 zc_s_32003 ?_
    refine sm_isubR (pc := 494) dX9_decomposes_494 ?_
    refine sm_goto (pc := 495) (tgt := 500) dX9_decomposes_495 (by decide) ?_
    exact hj500.use
noncomputable def lX9_decomposesa_447 {d : Nat} (P : zP d) (r437 : zK d) (r447 : zK d) : zK d := (xild 3 (xald 0 (xgfI 25 11 (xcmpS tgeR rlGe rhS rlS rhLt (xincR 2 1 r437) (xald 0 (xgfR 25 39 (xpI 22 (xild 3 (xbin zmulR (xpI 11 (xbin zaddR (xild 2 (xbin zaddR (xalQ 0 (xist 4 (xald 0 (xgfR 25 38 (xpI 11 (xild 2 (xbin zmulR (xild 3 (xbin zaddR (xild 4 (xpI 16001 (cX9_decomposesa_486 P r447)))))))))))))))))))))))))
set_option maxRecDepth 100000 in
set_option maxHeartbeats 4000000 in
theorem slX9_decomposesa_447 {d : Nat} [zGh] (P : zP d) (r437 : zK d) (r447 : zK d) (hr437 : zSimJ 1 X_X9_decomposes 2 P 437 r437) (hr447 : zSimJ 1 X_X9_decomposes 2 P 447 r447) : zSim X_X9_decomposes 2 P 447 (lX9_decomposesa_447 P r437 r447) := by
  unfold lX9_decomposesa_447
  refine sm_iload_n (pc := 447) (n := 3) dX9_decomposes_447 rfl ?_
  refine sm_aload_n (pc := 448) (n := 0) dX9_decomposes_448 rfl ?_
  refine gf_X9_172 (pc := 449) rfl dX9_decomposes_449 ?_
  refine sm_icmpS_ge (pc := 452) (tgt := 507) dX9_decomposes_452 (by decide) ?_ ?_
  · skip
    refine sm_iincR (pc := 507) (n := 2) dX9_decomposes_507 zc_i_1 ?_
    refine sm_goto (pc := 510) (tgt := 437) dX9_decomposes_510 (by decide) ?_
    exact hr437.use
  · skip
    refine sm_aload_n (pc := 455) (n := 0) dX9_decomposes_455 rfl ?_
    refine gf_X9_102 (pc := 456) rfl dX9_decomposes_456 ?_
    refine sm_bipush (pc := 459) dX9_decomposes_459 zc_b_22 ?_
    refine sm_iload_n (pc := 461) (n := 3) dX9_decomposes_461 rfl ?_
    refine sm_imulR (pc := 462) dX9_decomposes_462 ?_
    refine sm_bipush (pc := 463) dX9_decomposes_463 zc_b_11 ?_
    refine sm_iaddR (pc := 465) dX9_decomposes_465 ?_
    refine sm_iload_n (pc := 466) (n := 2) dX9_decomposes_466 rfl ?_
    refine sm_iaddR (pc := 467) dX9_decomposes_467 ?_
    refine sm_ialoadQ (pc := 468) dX9_decomposes_468 ?_
    refine sm_istore (pc := 469) (n := 4) dX9_decomposes_469 ?_
    refine sm_aload_n (pc := 471) (n := 0) dX9_decomposes_471 rfl ?_
    refine gf_X9_99 (pc := 472) rfl dX9_decomposes_472 ?_
    refine sm_bipush (pc := 475) dX9_decomposes_475 zc_b_11 ?_
    refine sm_iload_n (pc := 477) (n := 2) dX9_decomposes_477 rfl ?_
    refine sm_imulR (pc := 478) dX9_decomposes_478 ?_
    refine sm_iload_n (pc := 479) (n := 3) dX9_decomposes_479 rfl ?_
    refine sm_iaddR (pc := 480) dX9_decomposes_480 ?_
    refine sm_iload (pc := 481) (n := 4) dX9_decomposes_481 ?_
    refine sm_sipush (pc := 483) dX9_decomposes_483 zc_s_16001 ?_
    exact scX9_decomposesa_486 P r447 hr447
noncomputable def lX9_decomposesa_437 {d : Nat} (P : zP d) (r437 : zK d) : zK d := (xild 2 (xald 0 (xgfI 25 2 (xcmpS tgeR rlGe rhS rlS rhLt (xvret P) (xpI 0 (xist 3 (xloop (fun r447 => (lX9_decomposesa_447 P r437 r447)) 100000)))))))
set_option maxRecDepth 100000 in
set_option maxHeartbeats 4000000 in
theorem slX9_decomposesa_437 {d : Nat} [zGh] (P : zP d) (r437 : zK d) (hr437 : zSimJ 1 X_X9_decomposes 2 P 437 r437) : zSim X_X9_decomposes 2 P 437 (lX9_decomposesa_437 P r437) := by
  unfold lX9_decomposesa_437
  refine sm_iload_n (pc := 437) (n := 2) dX9_decomposes_437 rfl ?_
  refine sm_aload_n (pc := 438) (n := 0) dX9_decomposes_438 rfl ?_
  refine gf_X9_153 (pc := 439) rfl dX9_decomposes_439 ?_
  refine sm_icmpS_ge (pc := 442) (tgt := 513) dX9_decomposes_442 (by decide) ?_ ?_
  · skip
    exact sm_vreturn (pc := 513) dX9_decomposes_513 rfl
  · skip
    refine sm_iconst (pc := 445) dX9_decomposes_445 zc_i_0 ?_
    refine sm_istore_n (pc := 446) (n := 3) dX9_decomposes_446 rfl ?_
    exact (sm_loopJ (j := 1) (fun G1 hG1 r447 hr447 => @slX9_decomposesa_447 d G1 P r437 r447 (hr437.mv hG1 (by decide)) hr447) _).use
noncomputable def bX9_decomposesa_423 {d : Nat} (P : zP d) (r319 : zK d) : zK d := (xincR 5 1 r319)
set_option maxRecDepth 100000 in
set_option maxHeartbeats 4000000 in
theorem sbX9_decomposesa_423 {d : Nat} [zGh] (P : zP d) (r319 : zK d) (hr319 : zSimJ 5 X_X9_decomposes 2 P 319 r319) : zSim X_X9_decomposes 2 P 423 (bX9_decomposesa_423 P r319) := by
  unfold bX9_decomposesa_423
  refine sm_iincR (pc := 423) (n := 5) dX9_decomposes_423 zc_i_1 ?_
  refine sm_goto (pc := 426) (tgt := 319) dX9_decomposes_426 (by decide) ?_
  exact hr319.use
noncomputable def cX9_decomposesa_397 {d : Nat} (P : zP d) (r356 : zK d) : zK d := (xgfR 25 39 (xpI 22 (xild 2 (xbin zmulR (xild 7 (xbin zaddR (xalQ 0 (xi2l (xbinj zmulj (xbinj zaddj (xpL 32003 (xbinjN zremj (xl2i (xasQ 0 (fun v => v) (xincR 7 1 r356)))))))))))))))
set_option maxRecDepth 100000 in
set_option maxHeartbeats 4000000 in
theorem scX9_decomposesa_397 {d : Nat} [zGh] (P : zP d) (r356 : zK d) (hr356 : zSimJ 6 X_X9_decomposes 2 P 356 r356) : zSim X_X9_decomposes 2 P 397 (cX9_decomposesa_397 P r356) := by
  unfold cX9_decomposesa_397
  refine gf_X9_102 (pc := 397) rfl dX9_decomposes_397 ?_
  refine sm_bipush (pc := 400) dX9_decomposes_400 zc_b_22 ?_
  refine sm_iload_n (pc := 402) (n := 2) dX9_decomposes_402 rfl ?_
  refine sm_imulR (pc := 403) dX9_decomposes_403 ?_
  refine sm_iload (pc := 404) (n := 7) dX9_decomposes_404 ?_
  refine sm_iaddR (pc := 406) dX9_decomposes_406 ?_
  refine sm_ialoadQ (pc := 407) dX9_decomposes_407 ?_
  refine sm_i2l (pc := 408) dX9_decomposes_408 ?_
  refine sm_lmul (pc := 409) dX9_decomposes_409 ?_
  refine sm_ladd (pc := 410) dX9_decomposes_410 ?_
  refine sm_ldc2 (pc := 411) dX9_decomposes_411 wd_1017 zc_cl_32003 ?_
  refine sm_lrem (pc := 414) dX9_decomposes_414 ?_
  refine sm_l2i (pc := 415) dX9_decomposes_415 ?_
  refine sm_iastoreQ (pc := 416) dX9_decomposes_416 ?_
  refine sm_iincR (pc := 417) (n := 7) dX9_decomposes_417 zc_i_1 ?_
  refine sm_goto (pc := 420) (tgt := 356) dX9_decomposes_420 (by decide) ?_
  exact hr356.use
noncomputable def lX9_decomposesa_356 {d : Nat} (P : zP d) (j423 : zK d) (r356 : zK d) : zK d := (xild 7 (xpI 22 (xcmpS tgeR rlGe rhS rlS rhLt j423 (xald 0 (xgfR 25 39 (xpI 22 (xild 5 (xbin zmulR (xild 7 (xbin zaddR (xald 0 (xgfR 25 39 (xpI 22 (xild 5 (xbin zmulR (xild 7 (xbin zaddR (xalQ 0 (xi2l (xpI 32003 (xild 6 (xbin zsubR (xi2l (xald 0 (cX9_decomposesa_397 P r356)))))))))))))))))))))))))
set_option maxRecDepth 100000 in
set_option maxHeartbeats 4000000 in
theorem slX9_decomposesa_356 {d : Nat} [zGh] (P : zP d) (j423 : zK d) (r356 : zK d) (hj423 : zSimJ 5 X_X9_decomposes 2 P 423 j423) (hr356 : zSimJ 6 X_X9_decomposes 2 P 356 r356) : zSim X_X9_decomposes 2 P 356 (lX9_decomposesa_356 P j423 r356) := by
  unfold lX9_decomposesa_356
  refine sm_iload (pc := 356) (n := 7) dX9_decomposes_356 ?_
  refine sm_bipush (pc := 358) dX9_decomposes_358 zc_b_22 ?_
  refine sm_icmpS_ge (pc := 360) (tgt := 423) dX9_decomposes_360 (by decide) ?_ ?_
  · skip
    exact hj423.use
  · skip
    refine sm_aload_n (pc := 363) (n := 0) dX9_decomposes_363 rfl ?_
    refine gf_X9_102 (pc := 364) rfl dX9_decomposes_364 ?_
    refine sm_bipush (pc := 367) dX9_decomposes_367 zc_b_22 ?_
    refine sm_iload (pc := 369) (n := 5) dX9_decomposes_369 ?_
    refine sm_imulR (pc := 371) dX9_decomposes_371 ?_
    refine sm_iload (pc := 372) (n := 7) dX9_decomposes_372 ?_
    refine sm_iaddR (pc := 374) dX9_decomposes_374 ?_
    refine sm_aload_n (pc := 375) (n := 0) dX9_decomposes_375 rfl ?_
    refine gf_X9_102 (pc := 376) rfl dX9_decomposes_376 ?_
    refine sm_bipush (pc := 379) dX9_decomposes_379 zc_b_22 ?_
    refine sm_iload (pc := 381) (n := 5) dX9_decomposes_381 ?_
    refine sm_imulR (pc := 383) dX9_decomposes_383 ?_
    refine sm_iload (pc := 384) (n := 7) dX9_decomposes_384 ?_
    refine sm_iaddR (pc := 386) dX9_decomposes_386 ?_
    refine sm_ialoadQ (pc := 387) dX9_decomposes_387 ?_
    refine sm_i2l (pc := 388) dX9_decomposes_388 ?_
    refine sm_sipush (pc := 389) dX9_decomposes_389 zc_s_32003 ?_
    refine sm_iload (pc := 392) (n := 6) dX9_decomposes_392 ?_
    refine sm_isubR (pc := 394) dX9_decomposes_394 ?_
    refine sm_i2l (pc := 395) dX9_decomposes_395 ?_
    refine sm_aload_n (pc := 396) (n := 0) dX9_decomposes_396 rfl ?_
    exact scX9_decomposesa_397 P r356 hr356
noncomputable def lX9_decomposesa_319 {d : Nat} (P : zP d) (r136 : zK d) (r319 : zK d) : zK d := (xild 5 (xild 1 (xcmpS tgeR rlGe rhS rlS rhLt (xincR 2 1 r136) (xald 0 (xgfR 25 39 (xpI 22 (xild 5 (xbin zmulR (xild 2 (xbin zaddR (xalQ 0 (xist 6 (xild 5 (xild 2 (xjoin (bX9_decomposesa_423 P r319) (fun j423 => (xcmpS teqR rlEq rhEq rlNe rhNe j423 (xild 6 (xif0S teqR rlEq rhEq rlNe rhNe j423 (xpI 0 (xist 7 (xlp 7 5 (hsC 23) wkE (fun r356 => (lX9_decomposesa_356 P j423 r356))))))))))))))))))))))))
set_option maxRecDepth 100000 in
set_option maxHeartbeats 4000000 in
theorem slX9_decomposesa_319 {d : Nat} [zGh] (P : zP d) (r136 : zK d) (r319 : zK d) (hr136 : zSimJ 1 X_X9_decomposes 2 P 136 r136) (hr319 : zSimJ 5 X_X9_decomposes 2 P 319 r319) : zSim X_X9_decomposes 2 P 319 (lX9_decomposesa_319 P r136 r319) := by
  unfold lX9_decomposesa_319
  refine sm_iload (pc := 319) (n := 5) dX9_decomposes_319 ?_
  refine sm_iload_n (pc := 321) (n := 1) dX9_decomposes_321 rfl ?_
  refine sm_icmpS_ge (pc := 322) (tgt := 429) dX9_decomposes_322 (by decide) ?_ ?_
  · skip
    refine sm_iincR (pc := 429) (n := 2) dX9_decomposes_429 zc_i_1 ?_
    refine sm_goto (pc := 432) (tgt := 136) dX9_decomposes_432 (by decide) ?_
    exact hr136.use
  · skip
    refine sm_aload_n (pc := 325) (n := 0) dX9_decomposes_325 rfl ?_
    refine gf_X9_102 (pc := 326) rfl dX9_decomposes_326 ?_
    refine sm_bipush (pc := 329) dX9_decomposes_329 zc_b_22 ?_
    refine sm_iload (pc := 331) (n := 5) dX9_decomposes_331 ?_
    refine sm_imulR (pc := 333) dX9_decomposes_333 ?_
    refine sm_iload_n (pc := 334) (n := 2) dX9_decomposes_334 rfl ?_
    refine sm_iaddR (pc := 335) dX9_decomposes_335 ?_
    refine sm_ialoadQ (pc := 336) dX9_decomposes_336 ?_
    refine sm_istore (pc := 337) (n := 6) dX9_decomposes_337 ?_
    refine sm_iload (pc := 339) (n := 5) dX9_decomposes_339 ?_
    refine sm_iload_n (pc := 341) (n := 2) dX9_decomposes_341 rfl ?_
    refine sm_joinJ (pc := 342) (pc' := 423) (j := 5) (fun G0 hG0 => @sbX9_decomposesa_423 d G0 P r319 (hr319.mv hG0 (by decide))) (fun j423 hj423 => ?_)
    refine sm_icmpS_eq (pc := 342) (tgt := 423) dX9_decomposes_342 (by decide) ?_ ?_
    · skip
      exact hj423.use
    · skip
      refine sm_iload (pc := 345) (n := 6) dX9_decomposes_345 ?_
      refine sm_ifS_ne (pc := 347) (tgt := 353) dX9_decomposes_347 (by decide) ?_ ?_
      · skip
        refine sm_iconst (pc := 353) dX9_decomposes_353 zc_i_0 ?_
        refine sm_istore (pc := 354) (n := 7) dX9_decomposes_354 ?_
        exact sm_lp (i := 7) (j := 5) (by decide) (by decide) hsC_ok wkE_ok (fun G1 hG1 r356 hr356 => @slX9_decomposesa_356 d G1 P j423 r356 (hj423.mv hG1 (by decide)) hr356)
      · skip
        refine sm_goto (pc := 350) (tgt := 423) dX9_decomposes_350 (by decide) ?_
        exact hj423.use
noncomputable def cX9_decomposesa_308 {d : Nat} (P : zP d) (r269 : zK d) : zK d := (xl2i (xasQ 0 (fun v => v) (xincR 5 1 r269)))
set_option maxRecDepth 100000 in
set_option maxHeartbeats 4000000 in
theorem scX9_decomposesa_308 {d : Nat} [zGh] (P : zP d) (r269 : zK d) (hr269 : zSimJ 4 X_X9_decomposes 2 P 269 r269) : zSim X_X9_decomposes 2 P 308 (cX9_decomposesa_308 P r269) := by
  unfold cX9_decomposesa_308
  refine sm_l2i (pc := 308) dX9_decomposes_308 ?_
  refine sm_iastoreQ (pc := 309) dX9_decomposes_309 ?_
  refine sm_iincR (pc := 310) (n := 5) dX9_decomposes_310 zc_i_1 ?_
  refine sm_goto (pc := 313) (tgt := 269) dX9_decomposes_313 (by decide) ?_
  exact hr269.use
noncomputable def lX9_decomposesa_269 {d : Nat} (P : zP d) (r136 : zK d) (r269 : zK d) : zK d := (xild 5 (xpI 22 (xcmpS tgeR rlGe rhS rlS rhLt (xpI 0 (xist 5 (xlp 5 4 (hsL 1) wkE (fun r319 => (lX9_decomposesa_319 P r136 r319))))) (xald 0 (xgfR 25 39 (xpI 22 (xild 2 (xbin zmulR (xild 5 (xbin zaddR (xald 0 (xgfR 25 39 (xpI 22 (xild 2 (xbin zmulR (xild 5 (xbin zaddR (xalQ 0 (xi2l (xild 4 (xi2l (xbinj zmulj (xpL 32003 (xbinjN zremj (cX9_decomposesa_308 P r269)))))))))))))))))))))))))
set_option maxRecDepth 100000 in
set_option maxHeartbeats 4000000 in
theorem slX9_decomposesa_269 {d : Nat} [zGh] (P : zP d) (r136 : zK d) (r269 : zK d) (hr136 : zSimJ 1 X_X9_decomposes 2 P 136 r136) (hr269 : zSimJ 4 X_X9_decomposes 2 P 269 r269) : zSim X_X9_decomposes 2 P 269 (lX9_decomposesa_269 P r136 r269) := by
  unfold lX9_decomposesa_269
  refine sm_iload (pc := 269) (n := 5) dX9_decomposes_269 ?_
  refine sm_bipush (pc := 271) dX9_decomposes_271 zc_b_22 ?_
  refine sm_icmpS_ge (pc := 273) (tgt := 316) dX9_decomposes_273 (by decide) ?_ ?_
  · skip
    refine sm_iconst (pc := 316) dX9_decomposes_316 zc_i_0 ?_
    refine sm_istore (pc := 317) (n := 5) dX9_decomposes_317 ?_
    exact sm_lp (i := 5) (j := 4) (by decide) (by decide) hsL_ok wkE_ok (fun G1 hG1 r319 hr319 => @slX9_decomposesa_319 d G1 P r136 r319 (hr136.mv hG1 (by decide)) hr319)
  · skip
    refine sm_aload_n (pc := 276) (n := 0) dX9_decomposes_276 rfl ?_
    refine gf_X9_102 (pc := 277) rfl dX9_decomposes_277 ?_
    refine sm_bipush (pc := 280) dX9_decomposes_280 zc_b_22 ?_
    refine sm_iload_n (pc := 282) (n := 2) dX9_decomposes_282 rfl ?_
    refine sm_imulR (pc := 283) dX9_decomposes_283 ?_
    refine sm_iload (pc := 284) (n := 5) dX9_decomposes_284 ?_
    refine sm_iaddR (pc := 286) dX9_decomposes_286 ?_
    refine sm_aload_n (pc := 287) (n := 0) dX9_decomposes_287 rfl ?_
    refine gf_X9_102 (pc := 288) rfl dX9_decomposes_288 ?_
    refine sm_bipush (pc := 291) dX9_decomposes_291 zc_b_22 ?_
    refine sm_iload_n (pc := 293) (n := 2) dX9_decomposes_293 rfl ?_
    refine sm_imulR (pc := 294) dX9_decomposes_294 ?_
    refine sm_iload (pc := 295) (n := 5) dX9_decomposes_295 ?_
    refine sm_iaddR (pc := 297) dX9_decomposes_297 ?_
    refine sm_ialoadQ (pc := 298) dX9_decomposes_298 ?_
    refine sm_i2l (pc := 299) dX9_decomposes_299 ?_
    refine sm_iload (pc := 300) (n := 4) dX9_decomposes_300 ?_
    refine sm_i2l (pc := 302) dX9_decomposes_302 ?_
    refine sm_lmul (pc := 303) dX9_decomposes_303 ?_
    refine sm_ldc2 (pc := 304) dX9_decomposes_304 wd_1017 zc_cl_32003 ?_
    refine sm_lrem (pc := 307) dX9_decomposes_307 ?_
    exact scX9_decomposesa_308 P r269 hr269
noncomputable def bX9_decomposesa_244 {d : Nat} (P : zP d) (r136 : zK d) : zK d := (xald 0 (xgfR 25 39 (xpI 22 (xild 2 (xbin zmulR (xild 2 (xbin zaddR (xalQ 0 (xpI 32001 (xpI 32003 (xcS 3 0 0 (zstr f_X9_powera) (xist 4 (xpI 0 (xist 5 (xlp 5 3 (hsC 23) wkE (fun r269 => (lX9_decomposesa_269 P r136 r269)))))))))))))))))
set_option maxRecDepth 100000 in
set_option maxHeartbeats 4000000 in
theorem sbX9_decomposesa_244 {d : Nat} [zGh] (P : zP d) (r136 : zK d) (hr136 : zSimJ 1 X_X9_decomposes 2 P 136 r136) : zSim X_X9_decomposes 2 P 244 (bX9_decomposesa_244 P r136) := by
  unfold bX9_decomposesa_244
  refine sm_aload_n (pc := 244) (n := 0) dX9_decomposes_244 rfl ?_
  refine gf_X9_102 (pc := 245) rfl dX9_decomposes_245 ?_
  refine sm_bipush (pc := 248) dX9_decomposes_248 zc_b_22 ?_
  refine sm_iload_n (pc := 250) (n := 2) dX9_decomposes_250 rfl ?_
  refine sm_imulR (pc := 251) dX9_decomposes_251 ?_
  refine sm_iload_n (pc := 252) (n := 2) dX9_decomposes_252 rfl ?_
  refine sm_iaddR (pc := 253) dX9_decomposes_253 ?_
  refine sm_ialoadQ (pc := 254) dX9_decomposes_254 ?_
  refine sm_sipush (pc := 255) dX9_decomposes_255 zc_s_32001 ?_
  refine sm_sipush (pc := 258) dX9_decomposes_258 zc_s_32003 ?_
  refine sm_cS (pc := 261) (n := 3) (mc := 0) (ms := 0) (zMet_str m_X9_powera) (cr_X9_238 (X := X_X9_decomposes) (fr := 2) (frc := 1) (pc := 261) (mc := 0) (ms := 0) rfl (by decide) dX9_decomposes_261) ?_
  refine sm_istore (pc := 264) (n := 4) dX9_decomposes_264 ?_
  refine sm_iconst (pc := 266) dX9_decomposes_266 zc_i_0 ?_
  refine sm_istore (pc := 267) (n := 5) dX9_decomposes_267 ?_
  exact sm_lp (i := 5) (j := 3) (by decide) (by decide) hsC_ok wkE_ok (fun G1 hG1 r269 hr269 => @slX9_decomposesa_269 d G1 P r136 r269 (hr136.mv hG1 (by decide)) hr269)
noncomputable def cX9_decomposesa_219 {d : Nat} (P : zP d) (r174 : zK d) : zK d := (xild 4 (xbin zaddR (xalQ 0 (xasQ 0 (fun v => v) (xald 0 (xgfR 25 39 (xpI 22 (xild 2 (xbin zmulR (xild 4 (xbin zaddR (xild 5 (xasQ 0 (fun v => v) (xincR 4 1 r174))))))))))))))
set_option maxRecDepth 100000 in
set_option maxHeartbeats 4000000 in
theorem scX9_decomposesa_219 {d : Nat} [zGh] (P : zP d) (r174 : zK d) (hr174 : zSimJ 3 X_X9_decomposes 2 P 174 r174) : zSim X_X9_decomposes 2 P 219 (cX9_decomposesa_219 P r174) := by
  unfold cX9_decomposesa_219
  refine sm_iload (pc := 219) (n := 4) dX9_decomposes_219 ?_
  refine sm_iaddR (pc := 221) dX9_decomposes_221 ?_
  refine sm_ialoadQ (pc := 222) dX9_decomposes_222 ?_
  refine sm_iastoreQ (pc := 223) dX9_decomposes_223 ?_
  refine sm_aload_n (pc := 224) (n := 0) dX9_decomposes_224 rfl ?_
  refine gf_X9_102 (pc := 225) rfl dX9_decomposes_225 ?_
  refine sm_bipush (pc := 228) dX9_decomposes_228 zc_b_22 ?_
  refine sm_iload_n (pc := 230) (n := 2) dX9_decomposes_230 rfl ?_
  refine sm_imulR (pc := 231) dX9_decomposes_231 ?_
  refine sm_iload (pc := 232) (n := 4) dX9_decomposes_232 ?_
  refine sm_iaddR (pc := 234) dX9_decomposes_234 ?_
  refine sm_iload (pc := 235) (n := 5) dX9_decomposes_235 ?_
  refine sm_iastoreQ (pc := 237) dX9_decomposes_237 ?_
  refine sm_iincR (pc := 238) (n := 4) dX9_decomposes_238 zc_i_1 ?_
  refine sm_goto (pc := 241) (tgt := 174) dX9_decomposes_241 (by decide) ?_
  exact hr174.use
noncomputable def yX9_decomposesa_181 {d : Nat} (P : zP d) (j244 : zK d) (r174 : zK d) : zK d := (xild 3 (xild 1 (xcmpS tgeR rlGe rhS rlS rhLt j244 (xald 0 (xgfR 25 39 (xpI 22 (xild 3 (xbin zmulR (xild 4 (xbin zaddR (xalQ 0 (xist 5 (xald 0 (xgfR 25 39 (xpI 22 (xild 3 (xbin zmulR (xild 4 (xbin zaddR (xald 0 (xgfR 25 39 (xpI 22 (xild 2 (xbin zmulR (cX9_decomposesa_219 P r174)))))))))))))))))))))))))
set_option maxRecDepth 100000 in
set_option maxHeartbeats 4000000 in
theorem syX9_decomposesa_181 {d : Nat} [zGh] (P : zP d) (j244 : zK d) (r174 : zK d) (hj244 : zSimJ 3 X_X9_decomposes 2 P 244 j244) (hr174 : zSimJ 3 X_X9_decomposes 2 P 174 r174) : zSim X_X9_decomposes 2 P 181 (yX9_decomposesa_181 P j244 r174) := by
  unfold yX9_decomposesa_181
  refine sm_iload_n (pc := 181) (n := 3) dX9_decomposes_181 rfl ?_
  refine sm_iload_n (pc := 182) (n := 1) dX9_decomposes_182 rfl ?_
  refine sm_icmpS_ge (pc := 183) (tgt := 244) dX9_decomposes_183 (by decide) ?_ ?_
  · skip
    exact hj244.use
  · skip
    refine sm_aload_n (pc := 186) (n := 0) dX9_decomposes_186 rfl ?_
    refine gf_X9_102 (pc := 187) rfl dX9_decomposes_187 ?_
    refine sm_bipush (pc := 190) dX9_decomposes_190 zc_b_22 ?_
    refine sm_iload_n (pc := 192) (n := 3) dX9_decomposes_192 rfl ?_
    refine sm_imulR (pc := 193) dX9_decomposes_193 ?_
    refine sm_iload (pc := 194) (n := 4) dX9_decomposes_194 ?_
    refine sm_iaddR (pc := 196) dX9_decomposes_196 ?_
    refine sm_ialoadQ (pc := 197) dX9_decomposes_197 ?_
    refine sm_istore (pc := 198) (n := 5) dX9_decomposes_198 ?_
    refine sm_aload_n (pc := 200) (n := 0) dX9_decomposes_200 rfl ?_
    refine gf_X9_102 (pc := 201) rfl dX9_decomposes_201 ?_
    refine sm_bipush (pc := 204) dX9_decomposes_204 zc_b_22 ?_
    refine sm_iload_n (pc := 206) (n := 3) dX9_decomposes_206 rfl ?_
    refine sm_imulR (pc := 207) dX9_decomposes_207 ?_
    refine sm_iload (pc := 208) (n := 4) dX9_decomposes_208 ?_
    refine sm_iaddR (pc := 210) dX9_decomposes_210 ?_
    refine sm_aload_n (pc := 211) (n := 0) dX9_decomposes_211 rfl ?_
    refine gf_X9_102 (pc := 212) rfl dX9_decomposes_212 ?_
    refine sm_bipush (pc := 215) dX9_decomposes_215 zc_b_22 ?_
    refine sm_iload_n (pc := 217) (n := 2) dX9_decomposes_217 rfl ?_
    refine sm_imulR (pc := 218) dX9_decomposes_218 ?_
    exact scX9_decomposesa_219 P r174 hr174
noncomputable def lX9_decomposesa_174 {d : Nat} (P : zP d) (r136 : zK d) (r174 : zK d) : zK d := (xild 4 (xpI 22 (xjn (wkU 4 (wkU 5 wkE)) (zsp [] 2) (bX9_decomposesa_244 P r136) (fun j244 => (xcmpS tgeR rlGe rhS rlS rhLt j244 (xsym 3 3 (yX9_decomposesa_181 P j244 r174)))))))
set_option maxRecDepth 100000 in
set_option maxHeartbeats 4000000 in
theorem slX9_decomposesa_174 {d : Nat} [zGh] (P : zP d) (r136 : zK d) (r174 : zK d) (hr136 : zSimJ 1 X_X9_decomposes 2 P 136 r136) (hr174 : zSimJ 3 X_X9_decomposes 2 P 174 r174) : zSim X_X9_decomposes 2 P 174 (lX9_decomposesa_174 P r136 r174) := by
  unfold lX9_decomposesa_174
  refine sm_iload (pc := 174) (n := 4) dX9_decomposes_174 ?_
  refine sm_bipush (pc := 176) dX9_decomposes_176 zc_b_22 ?_
  refine sm_jn (pc := 178) (pc' := 244) (j := 3) (wkU_ok (wkU_ok wkE_ok)) (zsp_ok _ _) (fun G0 hG0 => @sbX9_decomposesa_244 d G0 P r136 (hr136.mv hG0 (by decide))) (fun j244 hj244 => ?_)
  refine sm_icmpS_ge (pc := 178) (tgt := 244) dX9_decomposes_178 (by decide) ?_ ?_
  · skip
    exact hj244.use
  · skip
    exact sm_sym (i := 3) (j := 3) (by decide) (fun G1 hG1 => @syX9_decomposesa_181 d G1 P j244 r174 (hj244.mv hG1 (by decide)) (hr174.mv hG1 (by decide)))
noncomputable def bX9_decomposesa_171 {d : Nat} (P : zP d) (r136 : zK d) : zK d := (xpI 0 (xist 4 (xlp 4 2 (hsC 23) wkE (fun r174 => (lX9_decomposesa_174 P r136 r174)))))
set_option maxRecDepth 100000 in
set_option maxHeartbeats 4000000 in
theorem sbX9_decomposesa_171 {d : Nat} [zGh] (P : zP d) (r136 : zK d) (hr136 : zSimJ 1 X_X9_decomposes 2 P 136 r136) : zSim X_X9_decomposes 2 P 171 (bX9_decomposesa_171 P r136) := by
  unfold bX9_decomposesa_171
  refine sm_iconst (pc := 171) dX9_decomposes_171 zc_i_0 ?_
  refine sm_istore (pc := 172) (n := 4) dX9_decomposes_172 ?_
  exact sm_lp (i := 4) (j := 2) (by decide) (by decide) hsC_ok wkE_ok (fun G1 hG1 r174 hr174 => @slX9_decomposesa_174 d G1 P r136 r174 (hr136.mv hG1 (by decide)) hr174)
noncomputable def lX9_decomposesa_146 {d : Nat} (P : zP d) (r136 : zK d) (r146 : zK d) : zK d := (xild 3 (xild 1 (xjn (wkB 3 1 wkE) (zsp [] 2) (bX9_decomposesa_171 P r136) (fun j171 => (xcmpS tgeR rlGe rhS rlS rhLt j171 (xald 0 (xgfR 25 39 (xpI 22 (xild 3 (xbin zmulR (xild 2 (xbin zaddR (xalQ 0 (xif0S teqR rlEq rhEq rlNe rhNe (xincR 3 1 r146) j171))))))))))))))
set_option maxRecDepth 100000 in
set_option maxHeartbeats 4000000 in
theorem slX9_decomposesa_146 {d : Nat} [zGh] (P : zP d) (r136 : zK d) (r146 : zK d) (hr136 : zSimJ 1 X_X9_decomposes 2 P 136 r136) (hr146 : zSimJ 2 X_X9_decomposes 2 P 146 r146) : zSim X_X9_decomposes 2 P 146 (lX9_decomposesa_146 P r136 r146) := by
  unfold lX9_decomposesa_146
  refine sm_iload_n (pc := 146) (n := 3) dX9_decomposes_146 rfl ?_
  refine sm_iload_n (pc := 147) (n := 1) dX9_decomposes_147 rfl ?_
  refine sm_jn (pc := 148) (pc' := 171) (j := 2) (wkB_ok wkE_ok) (zsp_ok _ _) (fun G0 hG0 => @sbX9_decomposesa_171 d G0 P r136 (hr136.mv hG0 (by decide))) (fun j171 hj171 => ?_)
  refine sm_icmpS_ge (pc := 148) (tgt := 171) dX9_decomposes_148 (by decide) ?_ ?_
  · skip
    exact hj171.use
  · skip
    refine sm_aload_n (pc := 151) (n := 0) dX9_decomposes_151 rfl ?_
    refine gf_X9_102 (pc := 152) rfl dX9_decomposes_152 ?_
    refine sm_bipush (pc := 155) dX9_decomposes_155 zc_b_22 ?_
    refine sm_iload_n (pc := 157) (n := 3) dX9_decomposes_157 rfl ?_
    refine sm_imulR (pc := 158) dX9_decomposes_158 ?_
    refine sm_iload_n (pc := 159) (n := 2) dX9_decomposes_159 rfl ?_
    refine sm_iaddR (pc := 160) dX9_decomposes_160 ?_
    refine sm_ialoadQ (pc := 161) dX9_decomposes_161 ?_
    refine sm_ifS_ne (pc := 162) (tgt := 171) dX9_decomposes_162 (by decide) ?_ ?_
    · skip
      exact hj171.use
    · skip
      refine sm_iincR (pc := 165) (n := 3) dX9_decomposes_165 zc_i_1 ?_
      refine sm_goto (pc := 168) (tgt := 146) dX9_decomposes_168 (by decide) ?_
      exact hr146.use
noncomputable def lX9_decomposesa_136 {d : Nat} (P : zP d) (r136 : zK d) : zK d := (xwk (wkA 0 [39] 4294967296 wkE) (xild 2 (xald 0 (xgfI 25 11 (xcmpS tgeR rlGe rhS rlS rhLt (xpI 0 (xist 2 (xloop (fun r437 => (lX9_decomposesa_437 P r437)) 100000))) (xild 2 (xist 3 (xlp 3 1 (hsL 1) (wkU 5 wkE) (fun r146 => (lX9_decomposesa_146 P r136 r146))))))))))
set_option maxRecDepth 100000 in
set_option maxHeartbeats 4000000 in
theorem slX9_decomposesa_136 {d : Nat} [zGh] (P : zP d) (r136 : zK d) (hr136 : zSimJ 1 X_X9_decomposes 2 P 136 r136) : zSim X_X9_decomposes 2 P 136 (lX9_decomposesa_136 P r136) := by
  unfold lX9_decomposesa_136
  refine sm_wk (wkA_ok wkE_ok) ?_
  refine sm_iload_n (pc := 136) (n := 2) dX9_decomposes_136 rfl ?_
  refine sm_aload_n (pc := 137) (n := 0) dX9_decomposes_137 rfl ?_
  refine gf_X9_172 (pc := 138) rfl dX9_decomposes_138 ?_
  refine sm_icmpS_ge (pc := 141) (tgt := 435) dX9_decomposes_141 (by decide) ?_ ?_
  · skip
    refine sm_iconst (pc := 435) dX9_decomposes_435 zc_i_0 ?_
    refine sm_istore_n (pc := 436) (n := 2) dX9_decomposes_436 rfl ?_
    exact (sm_loopJ (j := 1) (fun G1 hG1 r437 hr437 => @slX9_decomposesa_437 d G1 P r437 hr437) _).use
  · skip
    refine sm_iload_n (pc := 144) (n := 2) dX9_decomposes_144 rfl ?_
    refine sm_istore_n (pc := 145) (n := 3) dX9_decomposes_145 rfl ?_
    exact sm_lp (i := 3) (j := 1) (by decide) (by decide) hsL_ok (wkU_ok wkE_ok) (fun G1 hG1 r146 hr146 => @slX9_decomposesa_146 d G1 P r136 r146 (hr136.mv hG1 (by decide)) hr146)
noncomputable def bX9_decomposesa_128 {d : Nat} (P : zP d) (r4 : zK d) : zK d := (xincR 2 1 r4)
set_option maxRecDepth 100000 in
set_option maxHeartbeats 4000000 in
theorem sbX9_decomposesa_128 {d : Nat} [zGh] (P : zP d) (r4 : zK d) (hr4 : zSimJ 1 X_X9_decomposes 2 P 4 r4) : zSim X_X9_decomposes 2 P 128 (bX9_decomposesa_128 P r4) := by
  unfold bX9_decomposesa_128
  refine sm_iincR (pc := 128) (n := 2) dX9_decomposes_128 zc_i_1 ?_
  refine sm_goto (pc := 131) (tgt := 4) dX9_decomposes_131 (by decide) ?_
  exact hr4.use
noncomputable def cX9_decomposesa_119 {d : Nat} (P : zP d) (r26 : zK d) : zK d := (xincR 3 1 r26)
set_option maxRecDepth 100000 in
set_option maxHeartbeats 4000000 in
theorem scX9_decomposesa_119 {d : Nat} [zGh] (P : zP d) (r26 : zK d) (hr26 : zSimJ 1 X_X9_decomposes 2 P 26 r26) : zSim X_X9_decomposes 2 P 119 (cX9_decomposesa_119 P r26) := by
  unfold cX9_decomposesa_119
  refine sm_iincR (pc := 119) (n := 3) dX9_decomposes_119 zc_i_1 ?_
  refine sm_goto (pc := 122) (tgt := 26) dX9_decomposes_122 (by decide) ?_
  exact hr26.use
noncomputable def bX9_decomposesa_82 {d : Nat} (P : zP d) (r26 : zK d) : zK d := (xald 0 (xgfR 25 39 (xpI 22 (xild 1 (xbin zmulR (xpI 11 (xbin zaddR (xild 3 (xbin zaddR (xald 0 (xgfR 25 14 (xpI 11 (xild 3 (xbin zmulR (xild 2 (xbin zaddR (xalQ 0 (xpI 32003 (xbinN zremR (xpI 32003 (xbin zaddR (xpI 32003 (xbinN zremR (xasQ 0 (fun v => v) (cX9_decomposesa_119 P r26)))))))))))))))))))))))))
set_option maxRecDepth 100000 in
set_option maxHeartbeats 4000000 in
theorem sbX9_decomposesa_82 {d : Nat} [zGh] (P : zP d) (r26 : zK d) (hr26 : zSimJ 1 X_X9_decomposes 2 P 26 r26) : zSim X_X9_decomposes 2 P 82 (bX9_decomposesa_82 P r26) := by
  unfold bX9_decomposesa_82
  refine sm_aload_n (pc := 82) (n := 0) dX9_decomposes_82 rfl ?_
  refine gf_X9_102 (pc := 83) rfl dX9_decomposes_83 ?_
  refine sm_bipush (pc := 86) dX9_decomposes_86 zc_b_22 ?_
  refine sm_iload_n (pc := 88) (n := 1) dX9_decomposes_88 rfl ?_
  refine sm_imulR (pc := 89) dX9_decomposes_89 ?_
  refine sm_bipush (pc := 90) dX9_decomposes_90 zc_b_11 ?_
  refine sm_iaddR (pc := 92) dX9_decomposes_92 ?_
  refine sm_iload_n (pc := 93) (n := 3) dX9_decomposes_93 rfl ?_
  refine sm_iaddR (pc := 94) dX9_decomposes_94 ?_
  refine sm_aload_n (pc := 95) (n := 0) dX9_decomposes_95 rfl ?_
  refine gf_X9_38 (pc := 96) rfl dX9_decomposes_96 ?_
  refine sm_bipush (pc := 99) dX9_decomposes_99 zc_b_11 ?_
  refine sm_iload_n (pc := 101) (n := 3) dX9_decomposes_101 rfl ?_
  refine sm_imulR (pc := 102) dX9_decomposes_102 ?_
  refine sm_iload_n (pc := 103) (n := 2) dX9_decomposes_103 rfl ?_
  refine sm_iaddR (pc := 104) dX9_decomposes_104 ?_
  refine sm_ialoadQ (pc := 105) dX9_decomposes_105 ?_
  refine sm_sipush (pc := 106) dX9_decomposes_106 zc_s_32003 ?_
  refine sm_iremR (pc := 109) dX9_decomposes_109 ?_
  refine sm_sipush (pc := 110) dX9_decomposes_110 zc_s_32003 ?_
  refine sm_iaddR (pc := 113) dX9_decomposes_113 ?_
  refine sm_sipush (pc := 114) dX9_decomposes_114 zc_s_32003 ?_
  refine sm_iremR (pc := 117) dX9_decomposes_117 ?_
  refine sm_iastoreQ (pc := 118) dX9_decomposes_118 ?_
  exact scX9_decomposesa_119 P r26 hr26
noncomputable def cX9_decomposesa_66 {d : Nat} (P : zP d) (j82 : zK d) : zK d := (xild 2 (xbin zaddR (xalQ 0 (xpI 32003 (xbinN zremR (xpI 32003 (xbin zaddR (xpI 32003 (xbinN zremR (xasQ 0 (fun v => v) j82))))))))))
set_option maxRecDepth 100000 in
set_option maxHeartbeats 4000000 in
theorem scX9_decomposesa_66 {d : Nat} [zGh] (P : zP d) (j82 : zK d) (hj82 : zSimJ 1 X_X9_decomposes 2 P 82 j82) : zSim X_X9_decomposes 2 P 66 (cX9_decomposesa_66 P j82) := by
  unfold cX9_decomposesa_66
  refine sm_iload_n (pc := 66) (n := 2) dX9_decomposes_66 rfl ?_
  refine sm_iaddR (pc := 67) dX9_decomposes_67 ?_
  refine sm_ialoadQ (pc := 68) dX9_decomposes_68 ?_
  refine sm_sipush (pc := 69) dX9_decomposes_69 zc_s_32003 ?_
  refine sm_iremR (pc := 72) dX9_decomposes_72 ?_
  refine sm_sipush (pc := 73) dX9_decomposes_73 zc_s_32003 ?_
  refine sm_iaddR (pc := 76) dX9_decomposes_76 ?_
  refine sm_sipush (pc := 77) dX9_decomposes_77 zc_s_32003 ?_
  refine sm_iremR (pc := 80) dX9_decomposes_80 ?_
  refine sm_iastoreQ (pc := 81) dX9_decomposes_81 ?_
  exact hj82.use
noncomputable def lX9_decomposesa_26 {d : Nat} (P : zP d) (j128 : zK d) (r26 : zK d) : zK d := (xild 3 (xald 0 (xgfI 25 2 (xcmpS tgeR rlGe rhS rlS rhLt (xincR 1 1 j128) (xald 0 (xgfR 25 7 (xild 3 (xalQ 1 (xjoin (bX9_decomposesa_82 P r26) (fun j82 => (xif0S teqR rlEq rhEq rlNe rhNe j82 (xald 0 (xgfR 25 39 (xpI 22 (xild 1 (xbin zmulR (xald 0 (xgfR 25 10 (xild 3 (xalQ 0 (xbin zaddR (xald 0 (xgfR 25 37 (xpI 11 (xild 3 (xbin zmulR (cX9_decomposesa_66 P j82)))))))))))))))))))))))))))
set_option maxRecDepth 100000 in
set_option maxHeartbeats 4000000 in
theorem slX9_decomposesa_26 {d : Nat} [zGh] (P : zP d) (j128 : zK d) (r26 : zK d) (hj128 : zSimJ 1 X_X9_decomposes 2 P 128 j128) (hr26 : zSimJ 1 X_X9_decomposes 2 P 26 r26) : zSim X_X9_decomposes 2 P 26 (lX9_decomposesa_26 P j128 r26) := by
  unfold lX9_decomposesa_26
  refine sm_iload_n (pc := 26) (n := 3) dX9_decomposes_26 rfl ?_
  refine sm_aload_n (pc := 27) (n := 0) dX9_decomposes_27 rfl ?_
  refine gf_X9_153 (pc := 28) rfl dX9_decomposes_28 ?_
  refine sm_icmpS_ge (pc := 31) (tgt := 125) dX9_decomposes_31 (by decide) ?_ ?_
  · skip
    refine sm_iincR (pc := 125) (n := 1) dX9_decomposes_125 zc_i_1 ?_
    exact hj128.use
  · skip
    refine sm_aload_n (pc := 34) (n := 0) dX9_decomposes_34 rfl ?_
    refine gf_X9_22 (pc := 35) rfl dX9_decomposes_35 ?_
    refine sm_iload_n (pc := 38) (n := 3) dX9_decomposes_38 rfl ?_
    refine sm_baloadQ (pc := 39) dX9_decomposes_39 ?_
    refine sm_joinJ (pc := 40) (pc' := 82) (j := 1) (fun G0 hG0 => @sbX9_decomposesa_82 d G0 P r26 (hr26.mv hG0 (by decide))) (fun j82 hj82 => ?_)
    refine sm_ifS_eq (pc := 40) (tgt := 82) dX9_decomposes_40 (by decide) ?_ ?_
    · skip
      exact hj82.use
    · skip
      refine sm_aload_n (pc := 43) (n := 0) dX9_decomposes_43 rfl ?_
      refine gf_X9_102 (pc := 44) rfl dX9_decomposes_44 ?_
      refine sm_bipush (pc := 47) dX9_decomposes_47 zc_b_22 ?_
      refine sm_iload_n (pc := 49) (n := 1) dX9_decomposes_49 rfl ?_
      refine sm_imulR (pc := 50) dX9_decomposes_50 ?_
      refine sm_aload_n (pc := 51) (n := 0) dX9_decomposes_51 rfl ?_
      refine gf_X9_32 (pc := 52) rfl dX9_decomposes_52 ?_
      refine sm_iload_n (pc := 55) (n := 3) dX9_decomposes_55 rfl ?_
      refine sm_ialoadQ (pc := 56) dX9_decomposes_56 ?_
      refine sm_iaddR (pc := 57) dX9_decomposes_57 ?_
      refine sm_aload_n (pc := 58) (n := 0) dX9_decomposes_58 rfl ?_
      refine gf_X9_96 (pc := 59) rfl dX9_decomposes_59 ?_
      refine sm_bipush (pc := 62) dX9_decomposes_62 zc_b_11 ?_
      refine sm_iload_n (pc := 64) (n := 3) dX9_decomposes_64 rfl ?_
      refine sm_imulR (pc := 65) dX9_decomposes_65 ?_
      exact scX9_decomposesa_66 P j82 hj82
noncomputable def lX9_decomposesa_4 {d : Nat} (P : zP d) (r4 : zK d) : zK d := (xild 2 (xald 0 (xgfI 25 2 (xcmpS tgeR rlGe rhS rlS rhLt (xpI 0 (xist 2 (xloop (fun r136 => (lX9_decomposesa_136 P r136)) 100000))) (xald 0 (xgfR 25 8 (xild 2 (xalQ 1 (xjoin (bX9_decomposesa_128 P r4) (fun j128 => (xif0S teqR rlEq rhEq rlNe rhNe j128 (xpI 0 (xist 3 (xloop (fun r26 => (lX9_decomposesa_26 P j128 r26)) 100000))))))))))))))
set_option maxRecDepth 100000 in
set_option maxHeartbeats 4000000 in
theorem slX9_decomposesa_4 {d : Nat} [zGh] (P : zP d) (r4 : zK d) (hr4 : zSimJ 1 X_X9_decomposes 2 P 4 r4) : zSim X_X9_decomposes 2 P 4 (lX9_decomposesa_4 P r4) := by
  unfold lX9_decomposesa_4
  refine sm_iload_n (pc := 4) (n := 2) dX9_decomposes_4 rfl ?_
  refine sm_aload_n (pc := 5) (n := 0) dX9_decomposes_5 rfl ?_
  refine gf_X9_153 (pc := 6) rfl dX9_decomposes_6 ?_
  refine sm_icmpS_ge (pc := 9) (tgt := 134) dX9_decomposes_9 (by decide) ?_ ?_
  · skip
    refine sm_iconst (pc := 134) dX9_decomposes_134 zc_i_0 ?_
    refine sm_istore_n (pc := 135) (n := 2) dX9_decomposes_135 rfl ?_
    exact (sm_loopJ (j := 1) (fun G1 hG1 r136 hr136 => @slX9_decomposesa_136 d G1 P r136 hr136) _).use
  · skip
    refine sm_aload_n (pc := 12) (n := 0) dX9_decomposes_12 rfl ?_
    refine gf_X9_26 (pc := 13) rfl dX9_decomposes_13 ?_
    refine sm_iload_n (pc := 16) (n := 2) dX9_decomposes_16 rfl ?_
    refine sm_baloadQ (pc := 17) dX9_decomposes_17 ?_
    refine sm_joinJ (pc := 18) (pc' := 128) (j := 1) (fun G0 hG0 => @sbX9_decomposesa_128 d G0 P r4 (hr4.mv hG0 (by decide))) (fun j128 hj128 => ?_)
    refine sm_ifS_ne (pc := 18) (tgt := 24) dX9_decomposes_18 (by decide) ?_ ?_
    · skip
      refine sm_iconst (pc := 24) dX9_decomposes_24 zc_i_0 ?_
      refine sm_istore_n (pc := 25) (n := 3) dX9_decomposes_25 rfl ?_
      exact (sm_loopJ (j := 1) (fun G1 hG1 r26 hr26 => @slX9_decomposesa_26 d G1 P j128 r26 (hj128.mv hG1 (by decide)) hr26) _).use
    · skip
      refine sm_goto (pc := 21) (tgt := 128) dX9_decomposes_21 (by decide) ?_
      exact hj128.use
noncomputable def b_X9_decomposesa {d : Nat} (P : zP d) : zK d := (xpI 0 (xist 1 (xpI 0 (xist 2 (xloop (fun r4 => (lX9_decomposesa_4 P r4)) 100000)))))
set_option maxRecDepth 100000 in
set_option maxHeartbeats 4000000 in
theorem s_X9_decomposesa {d : Nat} [zGh] (P : zP d) : zSim X_X9_decomposes 2 P 0 (b_X9_decomposesa P) := by
  unfold b_X9_decomposesa
  refine sm_iconst (pc := 0) dX9_decomposes_0 zc_i_0 ?_
  refine sm_istore_n (pc := 1) (n := 1) dX9_decomposes_1 rfl ?_
  refine sm_iconst (pc := 2) dX9_decomposes_2 zc_i_0 ?_
  refine sm_istore_n (pc := 3) (n := 2) dX9_decomposes_3 rfl ?_
  exact (sm_loopJ (j := 1) (fun G1 hG1 r4 hr4 => @slX9_decomposesa_4 d G1 P r4 hr4) _).use
noncomputable def f_X9_decomposesa {d : Nat} : List zV → zH d → zP d → Bool := zfn 8 b_X9_decomposesa
theorem m_X9_decomposesa {d : Nat} : zMet (d := d) X_X9_decomposes yX9_decomposes 2 f_X9_decomposesa := zmet_mk (X := X_X9_decomposes) (by decide) rfl rfl s_X9_decomposesa
end
section
/-! the reference by summaries, by program -/
noncomputable def lX9_laysa_339 {d : Nat} (P : zP d) (r339 : zK d) : zK d := (xild 3 (xpI 66 (xcmpS tgeR rlGe rhS rlS rhLt (xvret P) (xald 0 (xgfR 25 43 (xild 3 (xpL 0 (xlas (xincR 3 1 r339)))))))))
set_option maxRecDepth 100000 in
set_option maxHeartbeats 4000000 in
theorem slX9_laysa_339 {d : Nat} [zGh] (P : zP d) (r339 : zK d) (hr339 : zSimJ 2 X_X9_lays 20 P 339 r339) : zSim X_X9_lays 20 P 339 (lX9_laysa_339 P r339) := by
  unfold lX9_laysa_339
  refine sm_iload_n (pc := 339) (n := 3) dX9_lays_339 rfl ?_
  refine sm_bipush (pc := 340) dX9_lays_340 zc_b_66 ?_
  refine sm_icmpS_ge (pc := 342) (tgt := 358) dX9_lays_342 (by decide) ?_ ?_
  · skip
    exact sm_vreturn (pc := 358) dX9_lays_358 rfl
  · skip
    refine sm_aload_n (pc := 345) (n := 0) dX9_lays_345 rfl ?_
    refine gf_X9_115 (pc := 346) rfl dX9_lays_346 ?_
    refine sm_iload_n (pc := 349) (n := 3) dX9_lays_349 rfl ?_
    refine sm_lconst (pc := 350) dX9_lays_350 zc_l_0 ?_
    refine sm_lastore (pc := 351) dX9_lays_351 ?_
    refine sm_iincR (pc := 352) (n := 3) dX9_lays_352 zc_i_1 ?_
    refine sm_goto (pc := 355) (tgt := 339) dX9_lays_355 (by decide) ?_
    exact hr339.use
noncomputable def bX9_laysa_331 {d : Nat} (P : zP d) (r225 : zK d) : zK d := (xincR 3 1 r225)
set_option maxRecDepth 100000 in
set_option maxHeartbeats 4000000 in
theorem sbX9_laysa_331 {d : Nat} [zGh] (P : zP d) (r225 : zK d) (hr225 : zSimJ 2 X_X9_lays 20 P 225 r225) : zSim X_X9_lays 20 P 331 (bX9_laysa_331 P r225) := by
  unfold bX9_laysa_331
  refine sm_iincR (pc := 331) (n := 3) dX9_lays_331 zc_i_1 ?_
  refine sm_goto (pc := 334) (tgt := 225) dX9_lays_334 (by decide) ?_
  exact hr225.use
noncomputable def cX9_laysa_301 {d : Nat} (P : zP d) (r260 : zK d) : zK d := (xbin zmulR (xbin zaddR (xist 5 (xincR 6 1 r260))))
set_option maxRecDepth 100000 in
set_option maxHeartbeats 4000000 in
theorem scX9_laysa_301 {d : Nat} [zGh] (P : zP d) (r260 : zK d) (hr260 : zSimJ 3 X_X9_lays 20 P 260 r260) : zSim X_X9_lays 20 P 301 (cX9_laysa_301 P r260) := by
  unfold cX9_laysa_301
  refine sm_imulR (pc := 301) dX9_lays_301 ?_
  refine sm_iaddR (pc := 302) dX9_lays_302 ?_
  refine sm_istore (pc := 303) (n := 5) dX9_lays_303 ?_
  refine sm_iincR (pc := 305) (n := 6) dX9_lays_305 zc_i_1 ?_
  refine sm_goto (pc := 308) (tgt := 260) dX9_lays_308 (by decide) ?_
  exact hr260.use
noncomputable def lX9_laysa_260 {d : Nat} (P : zP d) (r236 : zK d) (r260 : zK d) : zK d := (xild 6 (xald 0 (xgfI 25 2 (xcmpS tgeR rlGe rhS rlS rhLt (xald 0 (xgfR 25 40 (xpI 11 (xild 3 (xbin zmulR (xild 4 (xbin zaddR (xild 5 (xasQ 0 (fun v => v) (xincR 4 1 r236)))))))))) (xild 5 (xald 0 (xgfR 25 38 (xpI 11 (xild 6 (xbin zmulR (xald 0 (xgfR 25 10 (xild 3 (xalQ 0 (xbin zaddR (xalQ 0 (xald 0 (xgfR 25 14 (xpI 11 (xild 6 (xbin zmulR (xild 4 (xbin zaddR (xalQ 0 (cX9_laysa_301 P r260)))))))))))))))))))))))))
set_option maxRecDepth 100000 in
set_option maxHeartbeats 4000000 in
theorem slX9_laysa_260 {d : Nat} [zGh] (P : zP d) (r236 : zK d) (r260 : zK d) (hr236 : zSimJ 2 X_X9_lays 20 P 236 r236) (hr260 : zSimJ 3 X_X9_lays 20 P 260 r260) : zSim X_X9_lays 20 P 260 (lX9_laysa_260 P r236 r260) := by
  unfold lX9_laysa_260
  refine sm_iload (pc := 260) (n := 6) dX9_lays_260 ?_
  refine sm_aload_n (pc := 262) (n := 0) dX9_lays_262 rfl ?_
  refine gf_X9_153 (pc := 263) rfl dX9_lays_263 ?_
  refine sm_icmpS_ge (pc := 266) (tgt := 311) dX9_lays_266 (by decide) ?_ ?_
  · skip
    refine sm_aload_n (pc := 311) (n := 0) dX9_lays_311 rfl ?_
    refine gf_X9_105 (pc := 312) rfl dX9_lays_312 ?_
    refine sm_bipush (pc := 315) dX9_lays_315 zc_b_11 ?_
    refine sm_iload_n (pc := 317) (n := 3) dX9_lays_317 rfl ?_
    refine sm_imulR (pc := 318) dX9_lays_318 ?_
    refine sm_iload (pc := 319) (n := 4) dX9_lays_319 ?_
    refine sm_iaddR (pc := 321) dX9_lays_321 ?_
    refine sm_iload (pc := 322) (n := 5) dX9_lays_322 ?_
    refine sm_iastoreQ (pc := 324) dX9_lays_324 ?_
    refine sm_iincR (pc := 325) (n := 4) dX9_lays_325 zc_i_1 ?_
    refine sm_goto (pc := 328) (tgt := 236) dX9_lays_328 (by decide) ?_
    exact hr236.use
  · skip
    refine sm_iload (pc := 269) (n := 5) dX9_lays_269 ?_
    refine sm_aload_n (pc := 271) (n := 0) dX9_lays_271 rfl ?_
    refine gf_X9_99 (pc := 272) rfl dX9_lays_272 ?_
    refine sm_bipush (pc := 275) dX9_lays_275 zc_b_11 ?_
    refine sm_iload (pc := 277) (n := 6) dX9_lays_277 ?_
    refine sm_imulR (pc := 279) dX9_lays_279 ?_
    refine sm_aload_n (pc := 280) (n := 0) dX9_lays_280 rfl ?_
    refine gf_X9_32 (pc := 281) rfl dX9_lays_281 ?_
    refine sm_iload_n (pc := 284) (n := 3) dX9_lays_284 rfl ?_
    refine sm_ialoadQ (pc := 285) dX9_lays_285 ?_
    refine sm_iaddR (pc := 286) dX9_lays_286 ?_
    refine sm_ialoadQ (pc := 287) dX9_lays_287 ?_
    refine sm_aload_n (pc := 288) (n := 0) dX9_lays_288 rfl ?_
    refine gf_X9_38 (pc := 289) rfl dX9_lays_289 ?_
    refine sm_bipush (pc := 292) dX9_lays_292 zc_b_11 ?_
    refine sm_iload (pc := 294) (n := 6) dX9_lays_294 ?_
    refine sm_imulR (pc := 296) dX9_lays_296 ?_
    refine sm_iload (pc := 297) (n := 4) dX9_lays_297 ?_
    refine sm_iaddR (pc := 299) dX9_lays_299 ?_
    refine sm_ialoadQ (pc := 300) dX9_lays_300 ?_
    exact scX9_laysa_301 P r260 hr260
noncomputable def lX9_laysa_236 {d : Nat} (P : zP d) (r225 : zK d) (r236 : zK d) : zK d := (xild 4 (xald 0 (xgfI 25 2 (xjoin (bX9_laysa_331 P r225) (fun j331 => (xcmpS tgeR rlGe rhS rlS rhLt j331 (xald 0 (xgfR 25 7 (xild 3 (xalQ 1 (xif0S teqR rlEq rhEq rlNe rhNe j331 (xpI 0 (xist 5 (xpI 0 (xist 6 (xlp 6 2 (hsF 0 [] 2) (wkL 5 4294967296 (wkA 0 [38] 4294967296 (wkA 0 [14] 4294967296 wkE))) (fun r260 => (lX9_laysa_260 P r236 r260))))))))))))))))))
set_option maxRecDepth 100000 in
set_option maxHeartbeats 4000000 in
theorem slX9_laysa_236 {d : Nat} [zGh] (P : zP d) (r225 : zK d) (r236 : zK d) (hr225 : zSimJ 2 X_X9_lays 20 P 225 r225) (hr236 : zSimJ 2 X_X9_lays 20 P 236 r236) : zSim X_X9_lays 20 P 236 (lX9_laysa_236 P r225 r236) := by
  unfold lX9_laysa_236
  refine sm_iload (pc := 236) (n := 4) dX9_lays_236 ?_
  refine sm_aload_n (pc := 238) (n := 0) dX9_lays_238 rfl ?_
  refine gf_X9_153 (pc := 239) rfl dX9_lays_239 ?_
  refine sm_joinJ (pc := 242) (pc' := 331) (j := 2) (fun G0 hG0 => @sbX9_laysa_331 d G0 P r225 (hr225.mv hG0 (by decide))) (fun j331 hj331 => ?_)
  refine sm_icmpS_ge (pc := 242) (tgt := 331) dX9_lays_242 (by decide) ?_ ?_
  · skip
    exact hj331.use
  · skip
    refine sm_aload_n (pc := 245) (n := 0) dX9_lays_245 rfl ?_
    refine gf_X9_22 (pc := 246) rfl dX9_lays_246 ?_
    refine sm_iload_n (pc := 249) (n := 3) dX9_lays_249 rfl ?_
    refine sm_baloadQ (pc := 250) dX9_lays_250 ?_
    refine sm_ifS_eq (pc := 251) (tgt := 331) dX9_lays_251 (by decide) ?_ ?_
    · skip
      exact hj331.use
    · skip
      refine sm_iconst (pc := 254) dX9_lays_254 zc_i_0 ?_
      refine sm_istore (pc := 255) (n := 5) dX9_lays_255 ?_
      refine sm_iconst (pc := 257) dX9_lays_257 zc_i_0 ?_
      refine sm_istore (pc := 258) (n := 6) dX9_lays_258 ?_
      exact sm_lp (i := 6) (j := 2) (by decide) (by decide) hsF_ok (wkL_ok (wkA_ok (wkA_ok wkE_ok))) (fun G1 hG1 r260 hr260 => @slX9_laysa_260 d G1 P r236 r260 (hr236.mv hG1 (by decide)) hr260)
noncomputable def lX9_laysa_225 {d : Nat} (P : zP d) (r225 : zK d) : zK d := (xild 3 (xald 0 (xgfI 25 2 (xcmpS tgeR rlGe rhS rlS rhLt (xpI 0 (xist 3 (xloop (fun r339 => (lX9_laysa_339 P r339)) 100000))) (xpI 0 (xist 4 (xloop (fun r236 => (lX9_laysa_236 P r225 r236)) 100000)))))))
set_option maxRecDepth 100000 in
set_option maxHeartbeats 4000000 in
theorem slX9_laysa_225 {d : Nat} [zGh] (P : zP d) (r225 : zK d) (hr225 : zSimJ 2 X_X9_lays 20 P 225 r225) : zSim X_X9_lays 20 P 225 (lX9_laysa_225 P r225) := by
  unfold lX9_laysa_225
  refine sm_iload_n (pc := 225) (n := 3) dX9_lays_225 rfl ?_
  refine sm_aload_n (pc := 226) (n := 0) dX9_lays_226 rfl ?_
  refine gf_X9_153 (pc := 227) rfl dX9_lays_227 ?_
  refine sm_icmpS_ge (pc := 230) (tgt := 337) dX9_lays_230 (by decide) ?_ ?_
  · skip
    refine sm_iconst (pc := 337) dX9_lays_337 zc_i_0 ?_
    refine sm_istore_n (pc := 338) (n := 3) dX9_lays_338 rfl ?_
    exact (sm_loopJ (j := 2) (fun G1 hG1 r339 hr339 => @slX9_laysa_339 d G1 P r339 hr339) _).use
  · skip
    refine sm_iconst (pc := 233) dX9_lays_233 zc_i_0 ?_
    refine sm_istore (pc := 234) (n := 4) dX9_lays_234 ?_
    exact (sm_loopJ (j := 2) (fun G1 hG1 r236 hr236 => @slX9_laysa_236 d G1 P r225 r236 (hr225.mv hG1 (by decide)) hr236) _).use
noncomputable def bX9_laysa_213 {d : Nat} (P : zP d) (r65 : zK d) : zK d := (xincR 3 1 r65)
set_option maxRecDepth 100000 in
set_option maxHeartbeats 4000000 in
theorem sbX9_laysa_213 {d : Nat} [zGh] (P : zP d) (r65 : zK d) (hr65 : zSimJ 2 X_X9_lays 20 P 65 r65) : zSim X_X9_lays 20 P 213 (bX9_laysa_213 P r65) := by
  unfold bX9_laysa_213
  refine sm_iincR (pc := 213) (n := 3) dX9_lays_213 zc_i_1 ?_
  refine sm_goto (pc := 216) (tgt := 65) dX9_lays_216 (by decide) ?_
  exact hr65.use
noncomputable def bX9_laysa_207 {d : Nat} (P : zP d) (r161 : zK d) : zK d := (xincR 4 1 r161)
set_option maxRecDepth 100000 in
set_option maxHeartbeats 4000000 in
theorem sbX9_laysa_207 {d : Nat} [zGh] (P : zP d) (r161 : zK d) (hr161 : zSimJ 2 X_X9_lays 20 P 161 r161) : zSim X_X9_lays 20 P 207 (bX9_laysa_207 P r161) := by
  unfold bX9_laysa_207
  refine sm_iincR (pc := 207) (n := 4) dX9_lays_207 zc_i_1 ?_
  refine sm_goto (pc := 210) (tgt := 161) dX9_lays_210 (by decide) ?_
  exact hr161.use
noncomputable def cX9_laysa_206 {d : Nat} (P : zP d) (j207 : zK d) : zK d := (xasQ 0 (fun v => v) j207)
set_option maxRecDepth 100000 in
set_option maxHeartbeats 4000000 in
theorem scX9_laysa_206 {d : Nat} [zGh] (P : zP d) (j207 : zK d) (hj207 : zSimJ 2 X_X9_lays 20 P 207 j207) : zSim X_X9_lays 20 P 206 (cX9_laysa_206 P j207) := by
  unfold cX9_laysa_206
  refine sm_iastoreQ (pc := 206) dX9_lays_206 ?_
  exact hj207.use
noncomputable def lX9_laysa_161 {d : Nat} (P : zP d) (r161 : zK d) (r65 : zK d) : zK d := (xild 4 (xald 0 (xgfI 25 2 (xjoin (bX9_laysa_213 P r65) (fun j213 => (xcmpS tgeR rlGe rhS rlS rhLt j213 (xald 0 (xgfR 25 7 (xild 3 (xalQ 1 (xif0S teqR rlEq rhEq rlNe rhNe j213 (xald 0 (xgfR 25 8 (xild 4 (xalQ 1 (xjoin (bX9_laysa_207 P r161) (fun j207 => (xif0S teqR rlEq rhEq rlNe rhNe j207 (xald 0 (xgfR 25 37 (xpI 11 (xild 3 (xbin zmulR (xild 4 (xbin zaddR (xald 0 (xild 4 (xcV 25 2 0 0 (zstr gs_X9_modularOf) (cX9_laysa_206 P j207)))))))))))))))))))))))))))))
set_option maxRecDepth 100000 in
set_option maxHeartbeats 4000000 in
theorem slX9_laysa_161 {d : Nat} [zGh] (P : zP d) (r161 : zK d) (r65 : zK d) (hr161 : zSimJ 2 X_X9_lays 20 P 161 r161) (hr65 : zSimJ 2 X_X9_lays 20 P 65 r65) : zSim X_X9_lays 20 P 161 (lX9_laysa_161 P r161 r65) := by
  unfold lX9_laysa_161
  refine sm_iload (pc := 161) (n := 4) dX9_lays_161 ?_
  refine sm_aload_n (pc := 163) (n := 0) dX9_lays_163 rfl ?_
  refine gf_X9_153 (pc := 164) rfl dX9_lays_164 ?_
  refine sm_joinJ (pc := 167) (pc' := 213) (j := 2) (fun G0 hG0 => @sbX9_laysa_213 d G0 P r65 (hr65.mv hG0 (by decide))) (fun j213 hj213 => ?_)
  refine sm_icmpS_ge (pc := 167) (tgt := 213) dX9_lays_167 (by decide) ?_ ?_
  · skip
    exact hj213.use
  · skip
    refine sm_aload_n (pc := 170) (n := 0) dX9_lays_170 rfl ?_
    refine gf_X9_22 (pc := 171) rfl dX9_lays_171 ?_
    refine sm_iload_n (pc := 174) (n := 3) dX9_lays_174 rfl ?_
    refine sm_baloadQ (pc := 175) dX9_lays_175 ?_
    refine sm_ifS_eq (pc := 176) (tgt := 213) dX9_lays_176 (by decide) ?_ ?_
    · skip
      exact hj213.use
    · skip
      refine sm_aload_n (pc := 179) (n := 0) dX9_lays_179 rfl ?_
      refine gf_X9_26 (pc := 180) rfl dX9_lays_180 ?_
      refine sm_iload (pc := 183) (n := 4) dX9_lays_183 ?_
      refine sm_baloadQ (pc := 185) dX9_lays_185 ?_
      refine sm_joinJ (pc := 186) (pc' := 207) (j := 2) (fun G0 hG0 => @sbX9_laysa_207 d G0 P r161 (hr161.mv hG0 (by decide))) (fun j207 hj207 => ?_)
      refine sm_ifS_eq (pc := 186) (tgt := 207) dX9_lays_186 (by decide) ?_ ?_
      · skip
        exact hj207.use
      · skip
        refine sm_aload_n (pc := 189) (n := 0) dX9_lays_189 rfl ?_
        refine gf_X9_96 (pc := 190) rfl dX9_lays_190 ?_
        refine sm_bipush (pc := 193) dX9_lays_193 zc_b_11 ?_
        refine sm_iload_n (pc := 195) (n := 3) dX9_lays_195 rfl ?_
        refine sm_imulR (pc := 196) dX9_lays_196 ?_
        refine sm_iload (pc := 197) (n := 4) dX9_lays_197 ?_
        refine sm_iaddR (pc := 199) dX9_lays_199 ?_
        refine sm_aload_n (pc := 200) (n := 0) dX9_lays_200 rfl ?_
        refine sm_iload (pc := 201) (n := 4) dX9_lays_201 ?_
        refine sm_cV (pc := 203) (ci := 9) (n := 2) (mc := 0) (ms := 0) rfl (zMet_str mgs_X9_modularOf) (cr_X9_275 (X := X_X9_lays) (fr := 20) (frc := 19) (pc := 203) (mc := 0) (ms := 0) rfl (by decide) dX9_lays_203) ?_
        exact scX9_laysa_206 P j207 hj207
noncomputable def cX9_laysa_149 {d : Nat} (P : zP d) (r65 : zK d) : zK d := (xild 3 (xalQ 0 (xbin zsubR (xasQ 0 (fun v => v) (xald 0 (xild 3 (xcV 25 2 0 0 (zstr gs_X9_forms) (xpI 0 (xist 4 (xloop (fun r161 => (lX9_laysa_161 P r161 r65)) 100000))))))))))
set_option maxRecDepth 100000 in
set_option maxHeartbeats 4000000 in
theorem scX9_laysa_149 {d : Nat} [zGh] (P : zP d) (r65 : zK d) (hr65 : zSimJ 2 X_X9_lays 20 P 65 r65) : zSim X_X9_lays 20 P 149 (cX9_laysa_149 P r65) := by
  unfold cX9_laysa_149
  refine sm_iload_n (pc := 149) (n := 3) dX9_lays_149 rfl ?_
  refine sm_ialoadQ (pc := 150) dX9_lays_150 ?_
  refine sm_isubR (pc := 151) dX9_lays_151 ?_
  refine sm_iastoreQ (pc := 152) dX9_lays_152 ?_
  refine sm_aload_n (pc := 153) (n := 0) dX9_lays_153 rfl ?_
  refine sm_iload_n (pc := 154) (n := 3) dX9_lays_154 rfl ?_
  refine sm_cV (pc := 155) (ci := 9) (n := 2) (mc := 0) (ms := 0) rfl (zMet_str mgs_X9_forms) (cr_X9_272 (X := X_X9_lays) (fr := 20) (frc := 19) (pc := 155) (mc := 0) (ms := 0) rfl (by decide) dX9_lays_155) ?_
  refine sm_iconst (pc := 158) dX9_lays_158 zc_i_0 ?_
  refine sm_istore (pc := 159) (n := 4) dX9_lays_159 ?_
  exact (sm_loopJ (j := 2) (fun G1 hG1 r161 hr161 => @slX9_laysa_161 d G1 P r161 r65 hr161 (hr65.mv hG1 (by decide))) _).use
noncomputable def lX9_laysa_76 {d : Nat} (P : zP d) (r65 : zK d) (r76 : zK d) : zK d := (xild 4 (xald 0 (xgfI 25 2 (xcmpS tgeR rlGe rhS rlS rhLt (xald 0 (xild 3 (xpfI 25 25 (xald 0 (xgfR 25 20 (xild 3 (xald 0 (xgfI 25 23 (xasQ 0 (fun v => v) (xald 0 (xpI 0 (xpI 0 (xcV 25 3 0 0 (zstr gs_X9_fills) (xald 0 (xgfR 25 21 (xild 3 (xald 0 (xgfI 25 23 (xald 0 (xgfR 25 20 (cX9_laysa_149 P r65))))))))))))))))))))) (xald 0 (xgfR 25 14 (xpI 11 (xild 3 (xbin zmulR (xild 4 (xbin zaddR (xald 0 (xald 0 (xild 3 (xcV 25 2 0 0 (zstr gs_X9_beadsOf) (xild 4 (xpI 0 (xcV 25 4 0 0 (zstr gs_X9_charOf) (xasQ 0 (fun v => v) (xincR 4 1 r76))))))))))))))))))))
set_option maxRecDepth 100000 in
set_option maxHeartbeats 4000000 in
theorem slX9_laysa_76 {d : Nat} [zGh] (P : zP d) (r65 : zK d) (r76 : zK d) (hr65 : zSimJ 2 X_X9_lays 20 P 65 r65) (hr76 : zSimJ 2 X_X9_lays 20 P 76 r76) : zSim X_X9_lays 20 P 76 (lX9_laysa_76 P r65 r76) := by
  unfold lX9_laysa_76
  refine sm_iload (pc := 76) (n := 4) dX9_lays_76 ?_
  refine sm_aload_n (pc := 78) (n := 0) dX9_lays_78 rfl ?_
  refine gf_X9_153 (pc := 79) rfl dX9_lays_79 ?_
  refine sm_icmpS_ge (pc := 82) (tgt := 115) dX9_lays_82 (by decide) ?_ ?_
  · skip
    refine sm_aload_n (pc := 115) (n := 0) dX9_lays_115 rfl ?_
    refine sm_iload_n (pc := 116) (n := 3) dX9_lays_116 rfl ?_
    refine pf_X9_205 (pc := 117) rfl dX9_lays_117 ?_
    refine sm_aload_n (pc := 120) (n := 0) dX9_lays_120 rfl ?_
    refine gf_X9_53 (pc := 121) rfl dX9_lays_121 ?_
    refine sm_iload_n (pc := 124) (n := 3) dX9_lays_124 rfl ?_
    refine sm_aload_n (pc := 125) (n := 0) dX9_lays_125 rfl ?_
    refine gf_X9_208 (pc := 126) rfl dX9_lays_126 ?_
    refine sm_iastoreQ (pc := 129) dX9_lays_129 ?_
    refine sm_aload_n (pc := 130) (n := 0) dX9_lays_130 rfl ?_
    refine sm_iconst (pc := 131) dX9_lays_131 zc_i_0 ?_
    refine sm_iconst (pc := 132) dX9_lays_132 zc_i_0 ?_
    refine sm_cV (pc := 133) (ci := 9) (n := 3) (mc := 0) (ms := 0) rfl (zMet_str mgs_X9_fills) (cr_X9_217 (X := X_X9_lays) (fr := 20) (frc := 10) (pc := 133) (mc := 0) (ms := 0) rfl (by decide) dX9_lays_133) ?_
    refine sm_aload_n (pc := 136) (n := 0) dX9_lays_136 rfl ?_
    refine gf_X9_56 (pc := 137) rfl dX9_lays_137 ?_
    refine sm_iload_n (pc := 140) (n := 3) dX9_lays_140 rfl ?_
    refine sm_aload_n (pc := 141) (n := 0) dX9_lays_141 rfl ?_
    refine gf_X9_208 (pc := 142) rfl dX9_lays_142 ?_
    refine sm_aload_n (pc := 145) (n := 0) dX9_lays_145 rfl ?_
    refine gf_X9_53 (pc := 146) rfl dX9_lays_146 ?_
    exact scX9_laysa_149 P r65 hr65
  · skip
    refine sm_aload_n (pc := 85) (n := 0) dX9_lays_85 rfl ?_
    refine gf_X9_38 (pc := 86) rfl dX9_lays_86 ?_
    refine sm_bipush (pc := 89) dX9_lays_89 zc_b_11 ?_
    refine sm_iload_n (pc := 91) (n := 3) dX9_lays_91 rfl ?_
    refine sm_imulR (pc := 92) dX9_lays_92 ?_
    refine sm_iload (pc := 93) (n := 4) dX9_lays_93 ?_
    refine sm_iaddR (pc := 95) dX9_lays_95 ?_
    refine sm_aload_n (pc := 96) (n := 0) dX9_lays_96 rfl ?_
    refine sm_aload_n (pc := 97) (n := 0) dX9_lays_97 rfl ?_
    refine sm_iload_n (pc := 98) (n := 3) dX9_lays_98 rfl ?_
    refine sm_cV (pc := 99) (ci := 9) (n := 2) (mc := 0) (ms := 0) rfl (zMet_str mgs_X9_beadsOf) (cr_X9_202 (X := X_X9_lays) (fr := 20) (frc := 2) (pc := 99) (mc := 0) (ms := 0) rfl (by decide) dX9_lays_99) ?_
    refine sm_iload (pc := 102) (n := 4) dX9_lays_102 ?_
    refine sm_iconst (pc := 104) dX9_lays_104 zc_i_0 ?_
    refine sm_cV (pc := 105) (ci := 9) (n := 4) (mc := 0) (ms := 0) rfl (zMet_str mgs_X9_charOf) (cr_X9_191 (X := X_X9_lays) (fr := 20) (frc := 9) (pc := 105) (mc := 0) (ms := 0) rfl (by decide) dX9_lays_105) ?_
    refine sm_iastoreQ (pc := 108) dX9_lays_108 ?_
    refine sm_iincR (pc := 109) (n := 4) dX9_lays_109 zc_i_1 ?_
    refine sm_goto (pc := 112) (tgt := 76) dX9_lays_112 (by decide) ?_
    exact hr76.use
noncomputable def lX9_laysa_65 {d : Nat} (P : zP d) (r65 : zK d) : zK d := (xild 3 (xald 0 (xgfI 25 2 (xcmpS tgeR rlGe rhS rlS rhLt (xald 0 (xcV 25 1 0 0 (zstr f_X9_decomposesa) (xpI 0 (xist 3 (xloop (fun r225 => (lX9_laysa_225 P r225)) 100000))))) (xpI 0 (xist 4 (xloop (fun r76 => (lX9_laysa_76 P r65 r76)) 100000)))))))
set_option maxRecDepth 100000 in
set_option maxHeartbeats 4000000 in
theorem slX9_laysa_65 {d : Nat} [zGh] (P : zP d) (r65 : zK d) (hr65 : zSimJ 2 X_X9_lays 20 P 65 r65) : zSim X_X9_lays 20 P 65 (lX9_laysa_65 P r65) := by
  unfold lX9_laysa_65
  refine sm_iload_n (pc := 65) (n := 3) dX9_lays_65 rfl ?_
  refine sm_aload_n (pc := 66) (n := 0) dX9_lays_66 rfl ?_
  refine gf_X9_153 (pc := 67) rfl dX9_lays_67 ?_
  refine sm_icmpS_ge (pc := 70) (tgt := 219) dX9_lays_70 (by decide) ?_ ?_
  · skip
    refine sm_aload_n (pc := 219) (n := 0) dX9_lays_219 rfl ?_
    refine sm_cV (pc := 220) (ci := 9) (n := 1) (mc := 0) (ms := 0) rfl (zMet_str m_X9_decomposesa) (cr_X9_278 (X := X_X9_lays) (fr := 20) (frc := 2) (pc := 220) (mc := 0) (ms := 0) rfl (by decide) dX9_lays_220) ?_
    refine sm_iconst (pc := 223) dX9_lays_223 zc_i_0 ?_
    refine sm_istore_n (pc := 224) (n := 3) dX9_lays_224 rfl ?_
    exact (sm_loopJ (j := 2) (fun G1 hG1 r225 hr225 => @slX9_laysa_225 d G1 P r225 hr225) _).use
  · skip
    refine sm_iconst (pc := 73) dX9_lays_73 zc_i_0 ?_
    refine sm_istore (pc := 74) (n := 4) dX9_lays_74 ?_
    exact (sm_loopJ (j := 2) (fun G1 hG1 r76 hr76 => @slX9_laysa_76 d G1 P r65 r76 (hr65.mv hG1 (by decide)) hr76) _).use
noncomputable def lX9_laysa_43 {d : Nat} (P : zP d) (r43 : zK d) : zK d := (xild 3 (xpI 242 (xcmpS tgeR rlGe rhS rlS rhLt (xpI 0 (xist 3 (xloop (fun r65 => (lX9_laysa_65 P r65)) 100000))) (xald 0 (xgfR 25 39 (xild 3 (xpI 0 (xasQ 0 (fun v => v) (xincR 3 1 r43)))))))))
set_option maxRecDepth 100000 in
set_option maxHeartbeats 4000000 in
theorem slX9_laysa_43 {d : Nat} [zGh] (P : zP d) (r43 : zK d) (hr43 : zSimJ 2 X_X9_lays 20 P 43 r43) : zSim X_X9_lays 20 P 43 (lX9_laysa_43 P r43) := by
  unfold lX9_laysa_43
  refine sm_iload_n (pc := 43) (n := 3) dX9_lays_43 rfl ?_
  refine sm_sipush (pc := 44) dX9_lays_44 zc_s_242 ?_
  refine sm_icmpS_ge (pc := 47) (tgt := 63) dX9_lays_47 (by decide) ?_ ?_
  · skip
    refine sm_iconst (pc := 63) dX9_lays_63 zc_i_0 ?_
    refine sm_istore_n (pc := 64) (n := 3) dX9_lays_64 rfl ?_
    exact (sm_loopJ (j := 2) (fun G1 hG1 r65 hr65 => @slX9_laysa_65 d G1 P r65 hr65) _).use
  · skip
    refine sm_aload_n (pc := 50) (n := 0) dX9_lays_50 rfl ?_
    refine gf_X9_102 (pc := 51) rfl dX9_lays_51 ?_
    refine sm_iload_n (pc := 54) (n := 3) dX9_lays_54 rfl ?_
    refine sm_iconst (pc := 55) dX9_lays_55 zc_i_0 ?_
    refine sm_iastoreQ (pc := 56) dX9_lays_56 ?_
    refine sm_iincR (pc := 57) (n := 3) dX9_lays_57 zc_i_1 ?_
    refine sm_goto (pc := 60) (tgt := 43) dX9_lays_60 (by decide) ?_
    exact hr43.use
noncomputable def cX9_laysa_42 {d : Nat} (P : zP d) : zK d := (xist 3 (xlp 3 1 (hsC 243) (wkA 0 [39] 4294967296 wkE) (fun r43 => (lX9_laysa_43 P r43))))
set_option maxRecDepth 100000 in
set_option maxHeartbeats 4000000 in
theorem scX9_laysa_42 {d : Nat} [zGh] (P : zP d) : zSim X_X9_lays 20 P 42 (cX9_laysa_42 P) := by
  unfold cX9_laysa_42
  refine sm_istore_n (pc := 42) (n := 3) dX9_lays_42 rfl ?_
  exact sm_lp (i := 3) (j := 1) (by decide) (by decide) hsC_ok (wkA_ok wkE_ok) (fun G1 hG1 r43 hr43 => @slX9_laysa_43 d G1 P r43 hr43)
noncomputable def b_X9_laysa {d : Nat} (P : zP d) : zK d := (xald 0 (xild 1 (xpfI 25 0 (xald 0 (xild 2 (xpfI 25 1 (xald 0 (xpI 0 (xpfI 25 2 (xald 0 (xpI 0 (xald 0 (xgfI 25 0 (xald 0 (xgfI 25 0 (xcV 25 4 0 0 (zstr f_X9_grows) (xald 0 (xcV 25 1 0 0 (zstr f_X9_classes) (xald 0 (xcV 25 1 0 0 (zstr f_X9_cores) (xald 0 (xpI 0 (xpfI 25 23 (xpI 0 (cX9_laysa_42 P)))))))))))))))))))))))))
set_option maxRecDepth 100000 in
set_option maxHeartbeats 4000000 in
theorem s_X9_laysa {d : Nat} [zGh] (P : zP d) : zSim X_X9_lays 20 P 0 (b_X9_laysa P) := by
  unfold b_X9_laysa
  refine sm_aload_n (pc := 0) (n := 0) dX9_lays_0 rfl ?_
  refine sm_iload_n (pc := 1) (n := 1) dX9_lays_1 rfl ?_
  refine pf_X9_169 (pc := 2) rfl dX9_lays_2 ?_
  refine sm_aload_n (pc := 5) (n := 0) dX9_lays_5 rfl ?_
  refine sm_iload_n (pc := 6) (n := 2) dX9_lays_6 rfl ?_
  refine pf_X9_184 (pc := 7) rfl dX9_lays_7 ?_
  refine sm_aload_n (pc := 10) (n := 0) dX9_lays_10 rfl ?_
  refine sm_iconst (pc := 11) dX9_lays_11 zc_i_0 ?_
  refine pf_X9_153 (pc := 12) rfl dX9_lays_12 ?_
  refine sm_aload_n (pc := 15) (n := 0) dX9_lays_15 rfl ?_
  refine sm_iconst (pc := 16) dX9_lays_16 zc_i_0 ?_
  refine sm_aload_n (pc := 17) (n := 0) dX9_lays_17 rfl ?_
  refine gf_X9_169 (pc := 18) rfl dX9_lays_18 ?_
  refine sm_aload_n (pc := 21) (n := 0) dX9_lays_21 rfl ?_
  refine gf_X9_169 (pc := 22) rfl dX9_lays_22 ?_
  refine sm_cV (pc := 25) (ci := 9) (n := 4) (mc := 0) (ms := 0) rfl (zMet_str m_X9_grows) (cr_X9_162 (X := X_X9_lays) (fr := 20) (frc := 9) (pc := 25) (mc := 0) (ms := 0) rfl (by decide) dX9_lays_25) ?_
  refine sm_aload_n (pc := 28) (n := 0) dX9_lays_28 rfl ?_
  refine sm_cV (pc := 29) (ci := 9) (n := 1) (mc := 0) (ms := 0) rfl (zMet_str m_X9_classes) (cr_X9_266 (X := X_X9_lays) (fr := 20) (frc := 2) (pc := 29) (mc := 0) (ms := 0) rfl (by decide) dX9_lays_29) ?_
  refine sm_aload_n (pc := 32) (n := 0) dX9_lays_32 rfl ?_
  refine sm_cV (pc := 33) (ci := 9) (n := 1) (mc := 0) (ms := 0) rfl (zMet_str m_X9_cores) (cr_X9_269 (X := X_X9_lays) (fr := 20) (frc := 3) (pc := 33) (mc := 0) (ms := 0) rfl (by decide) dX9_lays_33) ?_
  refine sm_aload_n (pc := 36) (n := 0) dX9_lays_36 rfl ?_
  refine sm_iconst (pc := 37) dX9_lays_37 zc_i_0 ?_
  refine pf_X9_208 (pc := 38) rfl dX9_lays_38 ?_
  refine sm_iconst (pc := 41) dX9_lays_41 zc_i_0 ?_
  exact scX9_laysa_42 P
noncomputable def f_X9_laysa {d : Nat} : List zV → zH d → zP d → Bool := zfn 7 b_X9_laysa
theorem m_X9_laysa {d : Nat} : zMet (d := d) X_X9_lays yX9_lays 20 f_X9_laysa := zmet_mk (X := X_X9_lays) (by decide) rfl rfl s_X9_laysa

noncomputable def zk_99_zs1_99_p00_X9_lays_0 : zT 1 := @Prod.mk (zT 0) (zT 0) (0, 11, zun 40 11 4294967296) (0, 11, zun 40 11 4294967296)
noncomputable def zk_99_zs1_99_p00_X9_lays_1 : zC := (0, 6, 0x10000000001000000000100000000010000000001000000000100000000)
noncomputable def zk_99_zs1_99_p00_X9_lays_2 : zT 1 := @Prod.mk (zT 0) (zT 0) (0, 12000, zun 40 12000 4294967296) zk_99_zs1_99_p00_X9_lays_1
noncomputable def zk_99_zs1_99_p00_X9_lays_3 : zC := (0, 7, 0x100000000010000000001000000000100000000010000000001000000000100000000)
noncomputable def zk_99_zs1_99_p00_X9_lays_4 : zT 1 := @Prod.mk (zT 0) (zT 0) (0, 256, zun 40 256 4294967296) (0, 2816, zun 40 2816 4294967296)
noncomputable def zk_99_zs1_99_p00_X9_lays_5 : zT 1 := @Prod.mk (zT 0) (zT 0) (0, 121, zun 40 121 4294967296) (0, 242, zun 40 242 4294967296)
noncomputable def zk_99_zs1_99_p00_X9_lays_6 : zT 2 := @Prod.mk (zT 1) (zT 1) ((0, 11, zun 40 11 4294967296), (0, 121, zun 40 121 4294967296)) zk_99_zs1_99_p00_X9_lays_5
noncomputable def zk_99_zs1_99_p00_X9_lays_7 : zT 1 := @Prod.mk (zT 0) (zT 0) (0, 121, zun 40 121 4294967296) (2, 121, zun 72 121 18446744073709551616)
noncomputable def zk_99_zs1_99_p00_X9_lays_8 : zT 2 := @Prod.mk (zT 1) (zT 1) ((2, 11, zun 72 11 18446744073709551616), (0, 200, zun 40 200 4294967296)) ((0, 20, zun 40 20 4294967296), (0, 20, zun 40 20 4294967296))
noncomputable def zk_99_zs1_99_p00_X9_lays_9 : zT 3 := @Prod.mk (zT 2) (zT 2) (((2, 55, zun 72 55 18446744073709551616), (2, 55, zun 72 55 18446744073709551616)), ((2, 11, zun 72 11 18446744073709551616), zk_99_zs1_99_p00_X9_lays_1)) ((zk_99_zs1_99_p00_X9_lays_1, (0, 0, 0)), zO1)
noncomputable def h0_X9_lays_0 : zH 6 := (show zT 6 from (((((((25, 63, bg_464), (0, 66, zun 40 66 4294967296)), zk_99_zs1_99_p00_X9_lays_0), (((0, 11, zun 40 11 4294967296), (1, 11, zun 40 11 4294967296)), ((1, 11, zun 40 11 4294967296), (0, 11, zun 40 11 4294967296)))), ((((0, 11, zun 40 11 4294967296), zk_99_zs1_99_p00_X9_lays_1), ((0, 121, zun 40 121 4294967296), (0, 11, zun 40 11 4294967296))), (zk_99_zs1_99_p00_X9_lays_0, zk_99_zs1_99_p00_X9_lays_0))), (((((0, 11, zun 40 11 4294967296), (0, 456, zun 40 456 4294967296)), (zk_99_zs1_99_p00_X9_lays_1, (0, 46656, zun 40 46656 4294968017))), (((0, 720, zun 40 720 4295013952), (0, 12000, zun 40 12000 4294967296)), zk_99_zs1_99_p00_X9_lays_2)), (((zk_99_zs1_99_p00_X9_lays_3, zk_99_zs1_99_p00_X9_lays_3), zk_99_zs1_99_p00_X9_lays_4), zk_99_zs1_99_p00_X9_lays_6))), ((((zk_99_zs1_99_p00_X9_lays_7, ((0, 11, zun 40 11 4294967296), (2, 66, zun 72 66 18446744073709551616))), zk_99_zs1_99_p00_X9_lays_8), zk_99_zs1_99_p00_X9_lays_9), zO4)), (45, (0, 0)))
noncomputable def zk_99_zs1_99_p00_X9_lays_10 : zT 2 := @Prod.mk (zT 1) (zT 1) ((0, 11, bg_8), (1, 11, bg_8)) ((1, 11, bg_8), (0, 11, bg_8))
noncomputable def zk_99_zs1_99_p00_X9_lays_11 : zC := (0, 6, 0x10000000001000000000100000000010000000001000000000000000001)
noncomputable def zk_99_zs1_99_p00_X9_lays_12 : zT 3 := @Prod.mk (zT 2) (zT 2) (((0, 11, bg_131), zk_99_zs1_99_p00_X9_lays_11), ((0, 121, zun 40 121 4294967296), (0, 11, bg_131))) (((0, 11, bg_466), (0, 11, bg_131)), ((0, 11, bg_131), (0, 11, bg_131)))
noncomputable def zk_99_zs1_99_p00_X9_lays_13 : zT 4 := @Prod.mk (zT 3) (zT 3) ((((0, 11, bg_8), (0, 456, bg_16)), (zk_99_zs1_99_p00_X9_lays_11, (10, 46656, 1))), (((11, 720, 1), (0, 12000, zun 40 12000 4294967296)), zk_99_zs1_99_p00_X9_lays_2)) (((zk_99_zs1_99_p00_X9_lays_3, (0, 7, 0x100000000010000000001000000000100000000010000000000000000010100000000)), zk_99_zs1_99_p00_X9_lays_4), zk_99_zs1_99_p00_X9_lays_6)
noncomputable def zk_99_zs1_99_p00_X9_lays_14 : zT 5 := @Prod.mk (zT 4) (zT 4) (((zk_99_zs1_99_p00_X9_lays_7, ((0, 11, zun 40 11 4294967296), (2, 66, 0))), zk_99_zs1_99_p00_X9_lays_8), zk_99_zs1_99_p00_X9_lays_9) zO4
noncomputable def h1_X9_lays_0 : zH 6 := (show zT 6 from (((((((25, 63, bg_465), (0, 66, bg_1)), ((0, 11, bg_8), (0, 11, bg_8))), zk_99_zs1_99_p00_X9_lays_10), zk_99_zs1_99_p00_X9_lays_12), zk_99_zs1_99_p00_X9_lays_13), zk_99_zs1_99_p00_X9_lays_14), (45, (0, 0)))
theorem ev_X9_lays_0 : f_X9_laysa [zR 1, zI 1, zI 2] h0_X9_lays_0 (zrk (zU) h1_X9_lays_0) = true := by decide +kernel
noncomputable def g_X9_lays_0 {d : Nat} : List zV → zH d → zP d → Bool := zsmyM [(0, 0), (1, 3), (1, 4), (1, 5), (1, 6), (1, 7), (1, 8), (1, 9), (1, 10), (1, 13), (1, 14), (1, 15), (1, 16), (1, 17), (1, 19), (1, 20), (1, 21), (1, 22), (1, 24), (1, 26), (1, 27), (1, 29), (1, 30), (1, 31), (1, 32), (1, 33), (1, 34), (1, 35), (1, 36), (1, 37), (1, 38), (1, 39), (1, 40), (1, 41), (1, 42), (1, 43), (1, 44), (1, 45), (1, 51), (1, 52), (1, 56), (1, 57), (1, 58), (1, 60), (1, 62)] [zR 1, zI 1, zI 2] h0_X9_lays_0 (zU) h1_X9_lays_0
theorem mg_X9_lays_0 {d : Nat} : zMet (d := d) X_X9_lays yX9_lays 20 g_X9_lays_0 := zMet_smM m_X9_laysa ev_X9_lays_0
noncomputable def h0_X9_lays_1 : zH 6 := (show zT 6 from (((((((25, 63, bg_464), (0, 66, zun 40 66 4294967296)), zk_99_zs1_99_p00_X9_lays_0), (((0, 11, zun 40 11 4294967296), (1, 11, zun 40 11 4294967296)), ((1, 11, zun 40 11 4294967296), (0, 11, zun 40 11 4294967296)))), ((((0, 11, zun 40 11 4294967296), zk_99_zs1_99_p00_X9_lays_1), ((0, 121, zun 40 121 4294967296), (0, 11, zun 40 11 4294967296))), (zk_99_zs1_99_p00_X9_lays_0, zk_99_zs1_99_p00_X9_lays_0))), (((((0, 11, zun 40 11 4294967296), (0, 456, zun 40 456 4294967296)), (zk_99_zs1_99_p00_X9_lays_1, (0, 46656, zun 40 46656 4294968017))), (((0, 720, zun 40 720 4295013952), (0, 12000, zun 40 12000 4294967296)), zk_99_zs1_99_p00_X9_lays_2)), (((zk_99_zs1_99_p00_X9_lays_3, zk_99_zs1_99_p00_X9_lays_3), zk_99_zs1_99_p00_X9_lays_4), zk_99_zs1_99_p00_X9_lays_6))), ((((zk_99_zs1_99_p00_X9_lays_7, ((0, 11, zun 40 11 4294967296), (2, 66, zun 72 66 18446744073709551616))), zk_99_zs1_99_p00_X9_lays_8), zk_99_zs1_99_p00_X9_lays_9), zO4)), (45, (0, 0)))
noncomputable def h1_X9_lays_1 : zH 6 := (show zT 6 from (((((((25, 63, bg_467), (0, 66, bg_1)), ((0, 11, bg_8), (0, 11, bg_8))), zk_99_zs1_99_p00_X9_lays_10), zk_99_zs1_99_p00_X9_lays_12), zk_99_zs1_99_p00_X9_lays_13), zk_99_zs1_99_p00_X9_lays_14), (45, (0, 0)))
theorem ev_X9_lays_1 : f_X9_laysa [zR 1, zI 1, zI 3] h0_X9_lays_1 (zrk (zU) h1_X9_lays_1) = true := by decide +kernel
noncomputable def g_X9_lays_1 {d : Nat} : List zV → zH d → zP d → Bool := zsmyM [(0, 0), (1, 3), (1, 4), (1, 5), (1, 6), (1, 7), (1, 8), (1, 9), (1, 10), (1, 13), (1, 14), (1, 15), (1, 16), (1, 17), (1, 19), (1, 20), (1, 21), (1, 22), (1, 24), (1, 26), (1, 27), (1, 29), (1, 30), (1, 31), (1, 32), (1, 33), (1, 34), (1, 35), (1, 36), (1, 37), (1, 38), (1, 39), (1, 40), (1, 41), (1, 42), (1, 43), (1, 44), (1, 45), (1, 51), (1, 52), (1, 56), (1, 57), (1, 58), (1, 60), (1, 62)] [zR 1, zI 1, zI 3] h0_X9_lays_1 (zU) h1_X9_lays_1
theorem mg_X9_lays_1 {d : Nat} : zMet (d := d) X_X9_lays yX9_lays 20 g_X9_lays_1 := zMet_smM m_X9_laysa ev_X9_lays_1
noncomputable def h0_X9_lays_2 : zH 6 := (show zT 6 from (((((((25, 63, bg_464), (0, 66, zun 40 66 4294967296)), zk_99_zs1_99_p00_X9_lays_0), (((0, 11, zun 40 11 4294967296), (1, 11, zun 40 11 4294967296)), ((1, 11, zun 40 11 4294967296), (0, 11, zun 40 11 4294967296)))), ((((0, 11, zun 40 11 4294967296), zk_99_zs1_99_p00_X9_lays_1), ((0, 121, zun 40 121 4294967296), (0, 11, zun 40 11 4294967296))), (zk_99_zs1_99_p00_X9_lays_0, zk_99_zs1_99_p00_X9_lays_0))), (((((0, 11, zun 40 11 4294967296), (0, 456, zun 40 456 4294967296)), (zk_99_zs1_99_p00_X9_lays_1, (0, 46656, zun 40 46656 4294968017))), (((0, 720, zun 40 720 4295013952), (0, 12000, zun 40 12000 4294967296)), zk_99_zs1_99_p00_X9_lays_2)), (((zk_99_zs1_99_p00_X9_lays_3, zk_99_zs1_99_p00_X9_lays_3), zk_99_zs1_99_p00_X9_lays_4), zk_99_zs1_99_p00_X9_lays_6))), ((((zk_99_zs1_99_p00_X9_lays_7, ((0, 11, zun 40 11 4294967296), (2, 66, zun 72 66 18446744073709551616))), zk_99_zs1_99_p00_X9_lays_8), zk_99_zs1_99_p00_X9_lays_9), zO4)), (45, (0, 0)))
noncomputable def h1_X9_lays_2 : zH 6 := (show zT 6 from (((((((25, 63, bg_468), (0, 66, bg_1)), ((0, 11, bg_8), (0, 11, bg_8))), zk_99_zs1_99_p00_X9_lays_10), zk_99_zs1_99_p00_X9_lays_12), zk_99_zs1_99_p00_X9_lays_13), zk_99_zs1_99_p00_X9_lays_14), (45, (0, 0)))
theorem ev_X9_lays_2 : f_X9_laysa [zR 1, zI 1, zI 5] h0_X9_lays_2 (zrk (zU) h1_X9_lays_2) = true := by decide +kernel
noncomputable def g_X9_lays_2 {d : Nat} : List zV → zH d → zP d → Bool := zsmyM [(0, 0), (1, 3), (1, 4), (1, 5), (1, 6), (1, 7), (1, 8), (1, 9), (1, 10), (1, 13), (1, 14), (1, 15), (1, 16), (1, 17), (1, 19), (1, 20), (1, 21), (1, 22), (1, 24), (1, 26), (1, 27), (1, 29), (1, 30), (1, 31), (1, 32), (1, 33), (1, 34), (1, 35), (1, 36), (1, 37), (1, 38), (1, 39), (1, 40), (1, 41), (1, 42), (1, 43), (1, 44), (1, 45), (1, 51), (1, 52), (1, 56), (1, 57), (1, 58), (1, 60), (1, 62)] [zR 1, zI 1, zI 5] h0_X9_lays_2 (zU) h1_X9_lays_2
theorem mg_X9_lays_2 {d : Nat} : zMet (d := d) X_X9_lays yX9_lays 20 g_X9_lays_2 := zMet_smM m_X9_laysa ev_X9_lays_2
noncomputable def h0_X9_lays_3 : zH 6 := (show zT 6 from (((((((25, 63, bg_464), (0, 66, zun 40 66 4294967296)), zk_99_zs1_99_p00_X9_lays_0), (((0, 11, zun 40 11 4294967296), (1, 11, zun 40 11 4294967296)), ((1, 11, zun 40 11 4294967296), (0, 11, zun 40 11 4294967296)))), ((((0, 11, zun 40 11 4294967296), zk_99_zs1_99_p00_X9_lays_1), ((0, 121, zun 40 121 4294967296), (0, 11, zun 40 11 4294967296))), (zk_99_zs1_99_p00_X9_lays_0, zk_99_zs1_99_p00_X9_lays_0))), (((((0, 11, zun 40 11 4294967296), (0, 456, zun 40 456 4294967296)), (zk_99_zs1_99_p00_X9_lays_1, (0, 46656, zun 40 46656 4294968017))), (((0, 720, zun 40 720 4295013952), (0, 12000, zun 40 12000 4294967296)), zk_99_zs1_99_p00_X9_lays_2)), (((zk_99_zs1_99_p00_X9_lays_3, zk_99_zs1_99_p00_X9_lays_3), zk_99_zs1_99_p00_X9_lays_4), zk_99_zs1_99_p00_X9_lays_6))), ((((zk_99_zs1_99_p00_X9_lays_7, ((0, 11, zun 40 11 4294967296), (2, 66, zun 72 66 18446744073709551616))), zk_99_zs1_99_p00_X9_lays_8), zk_99_zs1_99_p00_X9_lays_9), zO4)), (45, (0, 0)))
noncomputable def h1_X9_lays_3 : zH 6 := (show zT 6 from (((((((25, 63, bg_469), (0, 66, bg_1)), ((0, 11, bg_8), (0, 11, bg_8))), zk_99_zs1_99_p00_X9_lays_10), zk_99_zs1_99_p00_X9_lays_12), zk_99_zs1_99_p00_X9_lays_13), zk_99_zs1_99_p00_X9_lays_14), (45, (0, 0)))
theorem ev_X9_lays_3 : f_X9_laysa [zR 1, zI 1, zI 7] h0_X9_lays_3 (zrk (zU) h1_X9_lays_3) = true := by decide +kernel
noncomputable def g_X9_lays_3 {d : Nat} : List zV → zH d → zP d → Bool := zsmyM [(0, 0), (1, 3), (1, 4), (1, 5), (1, 6), (1, 7), (1, 8), (1, 9), (1, 10), (1, 13), (1, 14), (1, 15), (1, 16), (1, 17), (1, 19), (1, 20), (1, 21), (1, 22), (1, 24), (1, 26), (1, 27), (1, 29), (1, 30), (1, 31), (1, 32), (1, 33), (1, 34), (1, 35), (1, 36), (1, 37), (1, 38), (1, 39), (1, 40), (1, 41), (1, 42), (1, 43), (1, 44), (1, 45), (1, 51), (1, 52), (1, 56), (1, 57), (1, 58), (1, 60), (1, 62)] [zR 1, zI 1, zI 7] h0_X9_lays_3 (zU) h1_X9_lays_3
theorem mg_X9_lays_3 {d : Nat} : zMet (d := d) X_X9_lays yX9_lays 20 g_X9_lays_3 := zMet_smM m_X9_laysa ev_X9_lays_3
noncomputable def h0_X9_lays_4 : zH 6 := (show zT 6 from (((((((25, 63, bg_464), (0, 66, zun 40 66 4294967296)), zk_99_zs1_99_p00_X9_lays_0), (((0, 11, zun 40 11 4294967296), (1, 11, zun 40 11 4294967296)), ((1, 11, zun 40 11 4294967296), (0, 11, zun 40 11 4294967296)))), ((((0, 11, zun 40 11 4294967296), zk_99_zs1_99_p00_X9_lays_1), ((0, 121, zun 40 121 4294967296), (0, 11, zun 40 11 4294967296))), (zk_99_zs1_99_p00_X9_lays_0, zk_99_zs1_99_p00_X9_lays_0))), (((((0, 11, zun 40 11 4294967296), (0, 456, zun 40 456 4294967296)), (zk_99_zs1_99_p00_X9_lays_1, (0, 46656, zun 40 46656 4294968017))), (((0, 720, zun 40 720 4295013952), (0, 12000, zun 40 12000 4294967296)), zk_99_zs1_99_p00_X9_lays_2)), (((zk_99_zs1_99_p00_X9_lays_3, zk_99_zs1_99_p00_X9_lays_3), zk_99_zs1_99_p00_X9_lays_4), zk_99_zs1_99_p00_X9_lays_6))), ((((zk_99_zs1_99_p00_X9_lays_7, ((0, 11, zun 40 11 4294967296), (2, 66, zun 72 66 18446744073709551616))), zk_99_zs1_99_p00_X9_lays_8), zk_99_zs1_99_p00_X9_lays_9), zO4)), (45, (0, 0)))
noncomputable def zk_99_zs1_99_p00_X9_lays_15 : zC := (0, 6, 0x10000000001000000000100000000010000000000000000010000000001)
noncomputable def zk_99_zs1_99_p00_X9_lays_16 : zT 3 := @Prod.mk (zT 2) (zT 2) (((0, 11, bg_134), (0, 456, bg_22)), ((0, 6, 0x10000000001000000000100000000010000000000000000020000000002), (10, 46656, 9))) (((11, 720, 9), (0, 12000, zun 40 12000 4294967296)), zk_99_zs1_99_p00_X9_lays_2)
noncomputable def zk_99_zs1_99_p00_X9_lays_17 : zT 2 := @Prod.mk (zT 1) (zT 1) (zk_99_zs1_99_p00_X9_lays_3, (0, 7, 0x100000000010000000001000000000100000000000000000200000000010100000000)) zk_99_zs1_99_p00_X9_lays_4
noncomputable def h1_X9_lays_4 : zH 6 := (show zT 6 from (((((((25, 63, bg_470), (0, 66, bg_2)), ((0, 11, bg_9), (0, 11, bg_134))), (((0, 11, bg_374), (1, 11, bg_471)), ((1, 11, bg_135), (0, 11, bg_472)))), ((((0, 11, bg_473), zk_99_zs1_99_p00_X9_lays_15), ((0, 121, zun 40 121 4294967296), (0, 11, bg_134))), (((0, 11, bg_474), (0, 11, bg_475)), ((0, 11, bg_131), (0, 11, bg_135))))), (zk_99_zs1_99_p00_X9_lays_16, (zk_99_zs1_99_p00_X9_lays_17, (((0, 11, bg_218), (0, 121, zun 40 121 4294967296)), zk_99_zs1_99_p00_X9_lays_5)))), zk_99_zs1_99_p00_X9_lays_14), (45, (0, 0)))
theorem ev_X9_lays_4 : f_X9_laysa [zR 1, zI 2, zI 2] h0_X9_lays_4 (zrk (zU) h1_X9_lays_4) = true := by decide +kernel
noncomputable def g_X9_lays_4 {d : Nat} : List zV → zH d → zP d → Bool := zsmyM [(0, 0), (1, 3), (1, 4), (1, 5), (1, 6), (1, 7), (1, 8), (1, 9), (1, 10), (1, 13), (1, 14), (1, 15), (1, 16), (1, 17), (1, 19), (1, 20), (1, 21), (1, 22), (1, 24), (1, 26), (1, 27), (1, 29), (1, 30), (1, 31), (1, 32), (1, 33), (1, 34), (1, 35), (1, 36), (1, 37), (1, 38), (1, 39), (1, 40), (1, 41), (1, 42), (1, 43), (1, 44), (1, 45), (1, 51), (1, 52), (1, 56), (1, 57), (1, 58), (1, 60), (1, 62)] [zR 1, zI 2, zI 2] h0_X9_lays_4 (zU) h1_X9_lays_4
theorem mg_X9_lays_4 {d : Nat} : zMet (d := d) X_X9_lays yX9_lays 20 g_X9_lays_4 := zMet_smM m_X9_laysa ev_X9_lays_4
noncomputable def h0_X9_lays_5 : zH 6 := (show zT 6 from (((((((25, 63, bg_464), (0, 66, zun 40 66 4294967296)), zk_99_zs1_99_p00_X9_lays_0), (((0, 11, zun 40 11 4294967296), (1, 11, zun 40 11 4294967296)), ((1, 11, zun 40 11 4294967296), (0, 11, zun 40 11 4294967296)))), ((((0, 11, zun 40 11 4294967296), zk_99_zs1_99_p00_X9_lays_1), ((0, 121, zun 40 121 4294967296), (0, 11, zun 40 11 4294967296))), (zk_99_zs1_99_p00_X9_lays_0, zk_99_zs1_99_p00_X9_lays_0))), (((((0, 11, zun 40 11 4294967296), (0, 456, zun 40 456 4294967296)), (zk_99_zs1_99_p00_X9_lays_1, (0, 46656, zun 40 46656 4294968017))), (((0, 720, zun 40 720 4295013952), (0, 12000, zun 40 12000 4294967296)), zk_99_zs1_99_p00_X9_lays_2)), (((zk_99_zs1_99_p00_X9_lays_3, zk_99_zs1_99_p00_X9_lays_3), zk_99_zs1_99_p00_X9_lays_4), zk_99_zs1_99_p00_X9_lays_6))), ((((zk_99_zs1_99_p00_X9_lays_7, ((0, 11, zun 40 11 4294967296), (2, 66, zun 72 66 18446744073709551616))), zk_99_zs1_99_p00_X9_lays_8), zk_99_zs1_99_p00_X9_lays_9), zO4)), (45, (0, 0)))
noncomputable def zk_99_zs1_99_p00_X9_lays_18 : zT 2 := @Prod.mk (zT 1) (zT 1) ((0, 11, bg_374), (1, 11, bg_134)) ((1, 11, bg_134), (0, 11, bg_472))
noncomputable def zk_99_zs1_99_p00_X9_lays_19 : zT 3 := @Prod.mk (zT 2) (zT 2) (((0, 11, bg_135), zk_99_zs1_99_p00_X9_lays_15), ((0, 121, zun 40 121 4294967296), (0, 11, bg_475))) (((0, 11, bg_477), (0, 11, bg_135)), ((0, 11, bg_135), (0, 11, bg_135)))
noncomputable def zk_99_zs1_99_p00_X9_lays_20 : zT 4 := @Prod.mk (zT 3) (zT 3) zk_99_zs1_99_p00_X9_lays_16 (zk_99_zs1_99_p00_X9_lays_17, zk_99_zs1_99_p00_X9_lays_6)
noncomputable def h1_X9_lays_5 : zH 6 := (show zT 6 from (((((((25, 63, bg_476), (0, 66, bg_2)), ((0, 11, bg_9), (0, 11, bg_134))), zk_99_zs1_99_p00_X9_lays_18), zk_99_zs1_99_p00_X9_lays_19), zk_99_zs1_99_p00_X9_lays_20), zk_99_zs1_99_p00_X9_lays_14), (45, (0, 0)))
theorem ev_X9_lays_5 : f_X9_laysa [zR 1, zI 2, zI 3] h0_X9_lays_5 (zrk (zU) h1_X9_lays_5) = true := by decide +kernel
noncomputable def g_X9_lays_5 {d : Nat} : List zV → zH d → zP d → Bool := zsmyM [(0, 0), (1, 3), (1, 4), (1, 5), (1, 6), (1, 7), (1, 8), (1, 9), (1, 10), (1, 13), (1, 14), (1, 15), (1, 16), (1, 17), (1, 19), (1, 20), (1, 21), (1, 22), (1, 24), (1, 26), (1, 27), (1, 29), (1, 30), (1, 31), (1, 32), (1, 33), (1, 34), (1, 35), (1, 36), (1, 37), (1, 38), (1, 39), (1, 40), (1, 41), (1, 42), (1, 43), (1, 44), (1, 45), (1, 51), (1, 52), (1, 56), (1, 57), (1, 58), (1, 60), (1, 62)] [zR 1, zI 2, zI 3] h0_X9_lays_5 (zU) h1_X9_lays_5
theorem mg_X9_lays_5 {d : Nat} : zMet (d := d) X_X9_lays yX9_lays 20 g_X9_lays_5 := zMet_smM m_X9_laysa ev_X9_lays_5
noncomputable def h0_X9_lays_6 : zH 6 := (show zT 6 from (((((((25, 63, bg_464), (0, 66, zun 40 66 4294967296)), zk_99_zs1_99_p00_X9_lays_0), (((0, 11, zun 40 11 4294967296), (1, 11, zun 40 11 4294967296)), ((1, 11, zun 40 11 4294967296), (0, 11, zun 40 11 4294967296)))), ((((0, 11, zun 40 11 4294967296), zk_99_zs1_99_p00_X9_lays_1), ((0, 121, zun 40 121 4294967296), (0, 11, zun 40 11 4294967296))), (zk_99_zs1_99_p00_X9_lays_0, zk_99_zs1_99_p00_X9_lays_0))), (((((0, 11, zun 40 11 4294967296), (0, 456, zun 40 456 4294967296)), (zk_99_zs1_99_p00_X9_lays_1, (0, 46656, zun 40 46656 4294968017))), (((0, 720, zun 40 720 4295013952), (0, 12000, zun 40 12000 4294967296)), zk_99_zs1_99_p00_X9_lays_2)), (((zk_99_zs1_99_p00_X9_lays_3, zk_99_zs1_99_p00_X9_lays_3), zk_99_zs1_99_p00_X9_lays_4), zk_99_zs1_99_p00_X9_lays_6))), ((((zk_99_zs1_99_p00_X9_lays_7, ((0, 11, zun 40 11 4294967296), (2, 66, zun 72 66 18446744073709551616))), zk_99_zs1_99_p00_X9_lays_8), zk_99_zs1_99_p00_X9_lays_9), zO4)), (45, (0, 0)))
noncomputable def h1_X9_lays_6 : zH 6 := (show zT 6 from (((((((25, 63, bg_478), (0, 66, bg_2)), ((0, 11, bg_9), (0, 11, bg_134))), zk_99_zs1_99_p00_X9_lays_18), zk_99_zs1_99_p00_X9_lays_19), zk_99_zs1_99_p00_X9_lays_20), zk_99_zs1_99_p00_X9_lays_14), (45, (0, 0)))
theorem ev_X9_lays_6 : f_X9_laysa [zR 1, zI 2, zI 5] h0_X9_lays_6 (zrk (zU) h1_X9_lays_6) = true := by decide +kernel
noncomputable def g_X9_lays_6 {d : Nat} : List zV → zH d → zP d → Bool := zsmyM [(0, 0), (1, 3), (1, 4), (1, 5), (1, 6), (1, 7), (1, 8), (1, 9), (1, 10), (1, 13), (1, 14), (1, 15), (1, 16), (1, 17), (1, 19), (1, 20), (1, 21), (1, 22), (1, 24), (1, 26), (1, 27), (1, 29), (1, 30), (1, 31), (1, 32), (1, 33), (1, 34), (1, 35), (1, 36), (1, 37), (1, 38), (1, 39), (1, 40), (1, 41), (1, 42), (1, 43), (1, 44), (1, 45), (1, 51), (1, 52), (1, 56), (1, 57), (1, 58), (1, 60), (1, 62)] [zR 1, zI 2, zI 5] h0_X9_lays_6 (zU) h1_X9_lays_6
theorem mg_X9_lays_6 {d : Nat} : zMet (d := d) X_X9_lays yX9_lays 20 g_X9_lays_6 := zMet_smM m_X9_laysa ev_X9_lays_6
noncomputable def h0_X9_lays_7 : zH 6 := (show zT 6 from (((((((25, 63, bg_464), (0, 66, zun 40 66 4294967296)), zk_99_zs1_99_p00_X9_lays_0), (((0, 11, zun 40 11 4294967296), (1, 11, zun 40 11 4294967296)), ((1, 11, zun 40 11 4294967296), (0, 11, zun 40 11 4294967296)))), ((((0, 11, zun 40 11 4294967296), zk_99_zs1_99_p00_X9_lays_1), ((0, 121, zun 40 121 4294967296), (0, 11, zun 40 11 4294967296))), (zk_99_zs1_99_p00_X9_lays_0, zk_99_zs1_99_p00_X9_lays_0))), (((((0, 11, zun 40 11 4294967296), (0, 456, zun 40 456 4294967296)), (zk_99_zs1_99_p00_X9_lays_1, (0, 46656, zun 40 46656 4294968017))), (((0, 720, zun 40 720 4295013952), (0, 12000, zun 40 12000 4294967296)), zk_99_zs1_99_p00_X9_lays_2)), (((zk_99_zs1_99_p00_X9_lays_3, zk_99_zs1_99_p00_X9_lays_3), zk_99_zs1_99_p00_X9_lays_4), zk_99_zs1_99_p00_X9_lays_6))), ((((zk_99_zs1_99_p00_X9_lays_7, ((0, 11, zun 40 11 4294967296), (2, 66, zun 72 66 18446744073709551616))), zk_99_zs1_99_p00_X9_lays_8), zk_99_zs1_99_p00_X9_lays_9), zO4)), (45, (0, 0)))
noncomputable def h1_X9_lays_7 : zH 6 := (show zT 6 from (((((((25, 63, bg_479), (0, 66, bg_2)), ((0, 11, bg_9), (0, 11, bg_134))), zk_99_zs1_99_p00_X9_lays_18), zk_99_zs1_99_p00_X9_lays_19), zk_99_zs1_99_p00_X9_lays_20), zk_99_zs1_99_p00_X9_lays_14), (45, (0, 0)))
theorem ev_X9_lays_7 : f_X9_laysa [zR 1, zI 2, zI 7] h0_X9_lays_7 (zrk (zU) h1_X9_lays_7) = true := by decide +kernel
noncomputable def g_X9_lays_7 {d : Nat} : List zV → zH d → zP d → Bool := zsmyM [(0, 0), (1, 3), (1, 4), (1, 5), (1, 6), (1, 7), (1, 8), (1, 9), (1, 10), (1, 13), (1, 14), (1, 15), (1, 16), (1, 17), (1, 19), (1, 20), (1, 21), (1, 22), (1, 24), (1, 26), (1, 27), (1, 29), (1, 30), (1, 31), (1, 32), (1, 33), (1, 34), (1, 35), (1, 36), (1, 37), (1, 38), (1, 39), (1, 40), (1, 41), (1, 42), (1, 43), (1, 44), (1, 45), (1, 51), (1, 52), (1, 56), (1, 57), (1, 58), (1, 60), (1, 62)] [zR 1, zI 2, zI 7] h0_X9_lays_7 (zU) h1_X9_lays_7
theorem mg_X9_lays_7 {d : Nat} : zMet (d := d) X_X9_lays yX9_lays 20 g_X9_lays_7 := zMet_smM m_X9_laysa ev_X9_lays_7
noncomputable def h0_X9_lays_8 : zH 6 := (show zT 6 from (((((((25, 63, bg_464), (0, 66, zun 40 66 4294967296)), zk_99_zs1_99_p00_X9_lays_0), (((0, 11, zun 40 11 4294967296), (1, 11, zun 40 11 4294967296)), ((1, 11, zun 40 11 4294967296), (0, 11, zun 40 11 4294967296)))), ((((0, 11, zun 40 11 4294967296), zk_99_zs1_99_p00_X9_lays_1), ((0, 121, zun 40 121 4294967296), (0, 11, zun 40 11 4294967296))), (zk_99_zs1_99_p00_X9_lays_0, zk_99_zs1_99_p00_X9_lays_0))), (((((0, 11, zun 40 11 4294967296), (0, 456, zun 40 456 4294967296)), (zk_99_zs1_99_p00_X9_lays_1, (0, 46656, zun 40 46656 4294968017))), (((0, 720, zun 40 720 4295013952), (0, 12000, zun 40 12000 4294967296)), zk_99_zs1_99_p00_X9_lays_2)), (((zk_99_zs1_99_p00_X9_lays_3, zk_99_zs1_99_p00_X9_lays_3), zk_99_zs1_99_p00_X9_lays_4), zk_99_zs1_99_p00_X9_lays_6))), ((((zk_99_zs1_99_p00_X9_lays_7, ((0, 11, zun 40 11 4294967296), (2, 66, zun 72 66 18446744073709551616))), zk_99_zs1_99_p00_X9_lays_8), zk_99_zs1_99_p00_X9_lays_9), zO4)), (45, (0, 0)))
noncomputable def zk_99_zs1_99_p00_X9_lays_21 : zC := (0, 6, 0x10000000001000000000100000000000000000100000000010000000001)
noncomputable def zk_99_zs1_99_p00_X9_lays_22 : zT 3 := @Prod.mk (zT 2) (zT 2) (((0, 11, bg_139), (0, 456, bg_31)), ((0, 6, 0x10000000001000000000100000000000000000300000000030000000003), (10, 46656, 73))) (((11, 720, 73), (0, 12000, zun 40 12000 4294967296)), zk_99_zs1_99_p00_X9_lays_2)
noncomputable def zk_99_zs1_99_p00_X9_lays_23 : zT 2 := @Prod.mk (zT 1) (zT 1) (zk_99_zs1_99_p00_X9_lays_3, (0, 7, 0x100000000010000000001000000000000000003000000000200000000010100000000)) zk_99_zs1_99_p00_X9_lays_4
noncomputable def zk_99_zs1_99_p00_X9_lays_24 : zT 4 := @Prod.mk (zT 3) (zT 3) zk_99_zs1_99_p00_X9_lays_22 (zk_99_zs1_99_p00_X9_lays_23, (((0, 11, bg_233), (0, 121, zun 40 121 4294967296)), zk_99_zs1_99_p00_X9_lays_5))
noncomputable def h1_X9_lays_8 : zH 6 := (show zT 6 from (((((((25, 63, bg_480), (0, 66, bg_3)), ((0, 11, bg_10), (0, 11, bg_481))), (((0, 11, bg_382), (1, 11, bg_482)), ((1, 11, bg_483), (0, 11, bg_484)))), ((((0, 11, bg_485), zk_99_zs1_99_p00_X9_lays_21), ((0, 121, zun 40 121 4294967296), (0, 11, bg_483))), (((0, 11, bg_486), (0, 11, bg_487)), ((0, 11, bg_135), (0, 11, bg_140))))), zk_99_zs1_99_p00_X9_lays_24), zk_99_zs1_99_p00_X9_lays_14), (45, (0, 0)))
theorem ev_X9_lays_8 : f_X9_laysa [zR 1, zI 3, zI 2] h0_X9_lays_8 (zrk (zU) h1_X9_lays_8) = true := by decide +kernel
noncomputable def g_X9_lays_8 {d : Nat} : List zV → zH d → zP d → Bool := zsmyM [(0, 0), (1, 3), (1, 4), (1, 5), (1, 6), (1, 7), (1, 8), (1, 9), (1, 10), (1, 13), (1, 14), (1, 15), (1, 16), (1, 17), (1, 19), (1, 20), (1, 21), (1, 22), (1, 24), (1, 26), (1, 27), (1, 29), (1, 30), (1, 31), (1, 32), (1, 33), (1, 34), (1, 35), (1, 36), (1, 37), (1, 38), (1, 39), (1, 40), (1, 41), (1, 42), (1, 43), (1, 44), (1, 45), (1, 51), (1, 52), (1, 56), (1, 57), (1, 58), (1, 60), (1, 62)] [zR 1, zI 3, zI 2] h0_X9_lays_8 (zU) h1_X9_lays_8
theorem mg_X9_lays_8 {d : Nat} : zMet (d := d) X_X9_lays yX9_lays 20 g_X9_lays_8 := zMet_smM m_X9_laysa ev_X9_lays_8
noncomputable def h0_X9_lays_9 : zH 6 := (show zT 6 from (((((((25, 63, bg_464), (0, 66, zun 40 66 4294967296)), zk_99_zs1_99_p00_X9_lays_0), (((0, 11, zun 40 11 4294967296), (1, 11, zun 40 11 4294967296)), ((1, 11, zun 40 11 4294967296), (0, 11, zun 40 11 4294967296)))), ((((0, 11, zun 40 11 4294967296), zk_99_zs1_99_p00_X9_lays_1), ((0, 121, zun 40 121 4294967296), (0, 11, zun 40 11 4294967296))), (zk_99_zs1_99_p00_X9_lays_0, zk_99_zs1_99_p00_X9_lays_0))), (((((0, 11, zun 40 11 4294967296), (0, 456, zun 40 456 4294967296)), (zk_99_zs1_99_p00_X9_lays_1, (0, 46656, zun 40 46656 4294968017))), (((0, 720, zun 40 720 4295013952), (0, 12000, zun 40 12000 4294967296)), zk_99_zs1_99_p00_X9_lays_2)), (((zk_99_zs1_99_p00_X9_lays_3, zk_99_zs1_99_p00_X9_lays_3), zk_99_zs1_99_p00_X9_lays_4), zk_99_zs1_99_p00_X9_lays_6))), ((((zk_99_zs1_99_p00_X9_lays_7, ((0, 11, zun 40 11 4294967296), (2, 66, zun 72 66 18446744073709551616))), zk_99_zs1_99_p00_X9_lays_8), zk_99_zs1_99_p00_X9_lays_9), zO4)), (45, (0, 0)))
noncomputable def h1_X9_lays_9 : zH 6 := (show zT 6 from (((((((25, 63, bg_488), (0, 66, bg_3)), ((0, 11, bg_10), (0, 11, bg_481))), (((0, 11, bg_382), (1, 11, bg_482)), ((1, 11, bg_489), (0, 11, bg_484)))), ((((0, 11, bg_485), zk_99_zs1_99_p00_X9_lays_21), ((0, 121, zun 40 121 4294967296), (0, 11, bg_490))), (((0, 11, bg_491), (0, 11, bg_492)), ((0, 11, bg_131), (0, 11, bg_140))))), zk_99_zs1_99_p00_X9_lays_24), zk_99_zs1_99_p00_X9_lays_14), (45, (0, 0)))
theorem ev_X9_lays_9 : f_X9_laysa [zR 1, zI 3, zI 3] h0_X9_lays_9 (zrk (zU) h1_X9_lays_9) = true := by decide +kernel
noncomputable def g_X9_lays_9 {d : Nat} : List zV → zH d → zP d → Bool := zsmyM [(0, 0), (1, 3), (1, 4), (1, 5), (1, 6), (1, 7), (1, 8), (1, 9), (1, 10), (1, 13), (1, 14), (1, 15), (1, 16), (1, 17), (1, 19), (1, 20), (1, 21), (1, 22), (1, 24), (1, 26), (1, 27), (1, 29), (1, 30), (1, 31), (1, 32), (1, 33), (1, 34), (1, 35), (1, 36), (1, 37), (1, 38), (1, 39), (1, 40), (1, 41), (1, 42), (1, 43), (1, 44), (1, 45), (1, 51), (1, 52), (1, 56), (1, 57), (1, 58), (1, 60), (1, 62)] [zR 1, zI 3, zI 3] h0_X9_lays_9 (zU) h1_X9_lays_9
theorem mg_X9_lays_9 {d : Nat} : zMet (d := d) X_X9_lays yX9_lays 20 g_X9_lays_9 := zMet_smM m_X9_laysa ev_X9_lays_9
noncomputable def h0_X9_lays_10 : zH 6 := (show zT 6 from (((((((25, 63, bg_464), (0, 66, zun 40 66 4294967296)), zk_99_zs1_99_p00_X9_lays_0), (((0, 11, zun 40 11 4294967296), (1, 11, zun 40 11 4294967296)), ((1, 11, zun 40 11 4294967296), (0, 11, zun 40 11 4294967296)))), ((((0, 11, zun 40 11 4294967296), zk_99_zs1_99_p00_X9_lays_1), ((0, 121, zun 40 121 4294967296), (0, 11, zun 40 11 4294967296))), (zk_99_zs1_99_p00_X9_lays_0, zk_99_zs1_99_p00_X9_lays_0))), (((((0, 11, zun 40 11 4294967296), (0, 456, zun 40 456 4294967296)), (zk_99_zs1_99_p00_X9_lays_1, (0, 46656, zun 40 46656 4294968017))), (((0, 720, zun 40 720 4295013952), (0, 12000, zun 40 12000 4294967296)), zk_99_zs1_99_p00_X9_lays_2)), (((zk_99_zs1_99_p00_X9_lays_3, zk_99_zs1_99_p00_X9_lays_3), zk_99_zs1_99_p00_X9_lays_4), zk_99_zs1_99_p00_X9_lays_6))), ((((zk_99_zs1_99_p00_X9_lays_7, ((0, 11, zun 40 11 4294967296), (2, 66, zun 72 66 18446744073709551616))), zk_99_zs1_99_p00_X9_lays_8), zk_99_zs1_99_p00_X9_lays_9), zO4)), (45, (0, 0)))
noncomputable def zk_99_zs1_99_p00_X9_lays_25 : zT 2 := @Prod.mk (zT 1) (zT 1) ((0, 11, bg_382), (1, 11, bg_490)) ((1, 11, bg_490), (0, 11, bg_484))
noncomputable def zk_99_zs1_99_p00_X9_lays_26 : zT 3 := @Prod.mk (zT 2) (zT 2) (((0, 11, bg_494), zk_99_zs1_99_p00_X9_lays_21), ((0, 121, zun 40 121 4294967296), (0, 11, bg_492))) (((0, 11, bg_495), (0, 11, bg_494)), ((0, 11, bg_494), (0, 11, bg_140)))
noncomputable def zk_99_zs1_99_p00_X9_lays_27 : zT 4 := @Prod.mk (zT 3) (zT 3) zk_99_zs1_99_p00_X9_lays_22 (zk_99_zs1_99_p00_X9_lays_23, zk_99_zs1_99_p00_X9_lays_6)
noncomputable def h1_X9_lays_10 : zH 6 := (show zT 6 from (((((((25, 63, bg_493), (0, 66, bg_3)), ((0, 11, bg_10), (0, 11, bg_481))), zk_99_zs1_99_p00_X9_lays_25), zk_99_zs1_99_p00_X9_lays_26), zk_99_zs1_99_p00_X9_lays_27), zk_99_zs1_99_p00_X9_lays_14), (45, (0, 0)))
theorem ev_X9_lays_10 : f_X9_laysa [zR 1, zI 3, zI 5] h0_X9_lays_10 (zrk (zU) h1_X9_lays_10) = true := by decide +kernel
noncomputable def g_X9_lays_10 {d : Nat} : List zV → zH d → zP d → Bool := zsmyM [(0, 0), (1, 3), (1, 4), (1, 5), (1, 6), (1, 7), (1, 8), (1, 9), (1, 10), (1, 13), (1, 14), (1, 15), (1, 16), (1, 17), (1, 19), (1, 20), (1, 21), (1, 22), (1, 24), (1, 26), (1, 27), (1, 29), (1, 30), (1, 31), (1, 32), (1, 33), (1, 34), (1, 35), (1, 36), (1, 37), (1, 38), (1, 39), (1, 40), (1, 41), (1, 42), (1, 43), (1, 44), (1, 45), (1, 51), (1, 52), (1, 56), (1, 57), (1, 58), (1, 60), (1, 62)] [zR 1, zI 3, zI 5] h0_X9_lays_10 (zU) h1_X9_lays_10
theorem mg_X9_lays_10 {d : Nat} : zMet (d := d) X_X9_lays yX9_lays 20 g_X9_lays_10 := zMet_smM m_X9_laysa ev_X9_lays_10
noncomputable def h0_X9_lays_11 : zH 6 := (show zT 6 from (((((((25, 63, bg_464), (0, 66, zun 40 66 4294967296)), zk_99_zs1_99_p00_X9_lays_0), (((0, 11, zun 40 11 4294967296), (1, 11, zun 40 11 4294967296)), ((1, 11, zun 40 11 4294967296), (0, 11, zun 40 11 4294967296)))), ((((0, 11, zun 40 11 4294967296), zk_99_zs1_99_p00_X9_lays_1), ((0, 121, zun 40 121 4294967296), (0, 11, zun 40 11 4294967296))), (zk_99_zs1_99_p00_X9_lays_0, zk_99_zs1_99_p00_X9_lays_0))), (((((0, 11, zun 40 11 4294967296), (0, 456, zun 40 456 4294967296)), (zk_99_zs1_99_p00_X9_lays_1, (0, 46656, zun 40 46656 4294968017))), (((0, 720, zun 40 720 4295013952), (0, 12000, zun 40 12000 4294967296)), zk_99_zs1_99_p00_X9_lays_2)), (((zk_99_zs1_99_p00_X9_lays_3, zk_99_zs1_99_p00_X9_lays_3), zk_99_zs1_99_p00_X9_lays_4), zk_99_zs1_99_p00_X9_lays_6))), ((((zk_99_zs1_99_p00_X9_lays_7, ((0, 11, zun 40 11 4294967296), (2, 66, zun 72 66 18446744073709551616))), zk_99_zs1_99_p00_X9_lays_8), zk_99_zs1_99_p00_X9_lays_9), zO4)), (45, (0, 0)))
noncomputable def h1_X9_lays_11 : zH 6 := (show zT 6 from (((((((25, 63, bg_496), (0, 66, bg_3)), ((0, 11, bg_10), (0, 11, bg_481))), zk_99_zs1_99_p00_X9_lays_25), zk_99_zs1_99_p00_X9_lays_26), zk_99_zs1_99_p00_X9_lays_27), zk_99_zs1_99_p00_X9_lays_14), (45, (0, 0)))
theorem ev_X9_lays_11 : f_X9_laysa [zR 1, zI 3, zI 7] h0_X9_lays_11 (zrk (zU) h1_X9_lays_11) = true := by decide +kernel
noncomputable def g_X9_lays_11 {d : Nat} : List zV → zH d → zP d → Bool := zsmyM [(0, 0), (1, 3), (1, 4), (1, 5), (1, 6), (1, 7), (1, 8), (1, 9), (1, 10), (1, 13), (1, 14), (1, 15), (1, 16), (1, 17), (1, 19), (1, 20), (1, 21), (1, 22), (1, 24), (1, 26), (1, 27), (1, 29), (1, 30), (1, 31), (1, 32), (1, 33), (1, 34), (1, 35), (1, 36), (1, 37), (1, 38), (1, 39), (1, 40), (1, 41), (1, 42), (1, 43), (1, 44), (1, 45), (1, 51), (1, 52), (1, 56), (1, 57), (1, 58), (1, 60), (1, 62)] [zR 1, zI 3, zI 7] h0_X9_lays_11 (zU) h1_X9_lays_11
theorem mg_X9_lays_11 {d : Nat} : zMet (d := d) X_X9_lays yX9_lays 20 g_X9_lays_11 := zMet_smM m_X9_laysa ev_X9_lays_11
noncomputable def h0_X9_lays_12 : zH 6 := (show zT 6 from (((((((25, 63, bg_464), (0, 66, zun 40 66 4294967296)), zk_99_zs1_99_p00_X9_lays_0), (((0, 11, zun 40 11 4294967296), (1, 11, zun 40 11 4294967296)), ((1, 11, zun 40 11 4294967296), (0, 11, zun 40 11 4294967296)))), ((((0, 11, zun 40 11 4294967296), zk_99_zs1_99_p00_X9_lays_1), ((0, 121, zun 40 121 4294967296), (0, 11, zun 40 11 4294967296))), (zk_99_zs1_99_p00_X9_lays_0, zk_99_zs1_99_p00_X9_lays_0))), (((((0, 11, zun 40 11 4294967296), (0, 456, zun 40 456 4294967296)), (zk_99_zs1_99_p00_X9_lays_1, (0, 46656, zun 40 46656 4294968017))), (((0, 720, zun 40 720 4295013952), (0, 12000, zun 40 12000 4294967296)), zk_99_zs1_99_p00_X9_lays_2)), (((zk_99_zs1_99_p00_X9_lays_3, zk_99_zs1_99_p00_X9_lays_3), zk_99_zs1_99_p00_X9_lays_4), zk_99_zs1_99_p00_X9_lays_6))), ((((zk_99_zs1_99_p00_X9_lays_7, ((0, 11, zun 40 11 4294967296), (2, 66, zun 72 66 18446744073709551616))), zk_99_zs1_99_p00_X9_lays_8), zk_99_zs1_99_p00_X9_lays_9), zO4)), (45, (0, 0)))
noncomputable def h1_X9_lays_12 : zH 6 := (show zT 6 from (((((((25, 63, bg_497), (0, 66, bg_4)), ((0, 11, bg_11), (0, 11, bg_498))), (((0, 11, bg_393), (1, 11, bg_499)), ((1, 11, bg_500), (0, 11, bg_501)))), ((((0, 11, bg_502), (0, 6, 0x10000000001000000000000000001000000000100000000010000000001)), ((0, 121, zun 40 121 4294967296), (0, 11, bg_503))), (((0, 11, bg_504), (0, 11, bg_505)), ((0, 11, bg_131), (0, 11, bg_152))))), (((((0, 11, bg_151), (0, 456, bg_46)), ((0, 6, 0x10000000001000000000000000004000000000400000000040000000004), (10, 46656, 585))), (((11, 720, 585), (0, 12000, zun 40 12000 4294967296)), zk_99_zs1_99_p00_X9_lays_2)), (((zk_99_zs1_99_p00_X9_lays_3, (0, 7, 0x100000000010000000000000000040000000003000000000200000000010100000000)), zk_99_zs1_99_p00_X9_lays_4), (((0, 11, bg_255), (0, 121, zun 40 121 4294967296)), zk_99_zs1_99_p00_X9_lays_5)))), zk_99_zs1_99_p00_X9_lays_14), (45, (0, 0)))
theorem ev_X9_lays_12 : f_X9_laysa [zR 1, zI 4, zI 2] h0_X9_lays_12 (zrk (zU) h1_X9_lays_12) = true := by decide +kernel
noncomputable def g_X9_lays_12 {d : Nat} : List zV → zH d → zP d → Bool := zsmyM [(0, 0), (1, 3), (1, 4), (1, 5), (1, 6), (1, 7), (1, 8), (1, 9), (1, 10), (1, 13), (1, 14), (1, 15), (1, 16), (1, 17), (1, 19), (1, 20), (1, 21), (1, 22), (1, 24), (1, 26), (1, 27), (1, 29), (1, 30), (1, 31), (1, 32), (1, 33), (1, 34), (1, 35), (1, 36), (1, 37), (1, 38), (1, 39), (1, 40), (1, 41), (1, 42), (1, 43), (1, 44), (1, 45), (1, 51), (1, 52), (1, 56), (1, 57), (1, 58), (1, 60), (1, 62)] [zR 1, zI 4, zI 2] h0_X9_lays_12 (zU) h1_X9_lays_12
theorem mg_X9_lays_12 {d : Nat} : zMet (d := d) X_X9_lays yX9_lays 20 g_X9_lays_12 := zMet_smM m_X9_laysa ev_X9_lays_12
end
