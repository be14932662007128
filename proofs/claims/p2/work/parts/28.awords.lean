/-! words and numbers, by program -/
theorem wd_763 : (Jvm.Cond.static ({ cls := "java/lang/Math", name := "abs", desc := "(J)J" } : Jvm.MethodName)) ∈ ztbl := zmemT 763 (by decide +kernel) (by decide +kernel)
theorem wd_764 : (Jvm.Cond.code ({ cls := "java/lang/Math", name := "abs", desc := "(J)J" } : Jvm.MethodName) prog_14_method_61_code (2 : Nat) (Option.some Jvm.ClassFile.FieldType.long)) ∈ ztbl := zmemT 764 (by decide +kernel) (by decide +kernel)
theorem wd_1065 : (Jvm.Cond.fieldLink "PrimeBlocksModel" (353 : Nat) "PrimeBlocksModel" "at" "I") ∈ ztbl := zmemT 1065 (by decide +kernel) (by decide +kernel)
theorem wd_1071 : (Jvm.Cond.fieldLink "PrimeBlocksModel" (359 : Nat) "PrimeBlocksModel" "begins" "I") ∈ ztbl := zmemT 1071 (by decide +kernel) (by decide +kernel)
theorem wd_1072 : (Jvm.Cond.fieldLink "PrimeBlocksModel" (370 : Nat) "PrimeBlocksModel" "number" "I") ∈ ztbl := zmemT 1072 (by decide +kernel) (by decide +kernel)
theorem wd_1073 : (Jvm.Cond.fieldLink "PrimeBlocksModel" (367 : Nat) "PrimeBlocksModel" "numberAt" "I") ∈ ztbl := zmemT 1073 (by decide +kernel) (by decide +kernel)
theorem wd_1077 : (Jvm.Cond.fieldLink "PrimeBlocksModel" (396 : Nat) "PrimeBlocksModel" "deep" "I") ∈ ztbl := zmemT 1077 (by decide +kernel) (by decide +kernel)
theorem wd_1079 : (Jvm.Cond.fieldLink "PrimeBlocksModel" (380 : Nat) "PrimeBlocksModel" "lists" "I") ∈ ztbl := zmemT 1079 (by decide +kernel) (by decide +kernel)
theorem wd_1362 : (Jvm.Cond.methodLink "PrimeBlocksModel" (399 : Nat) ({ cls := "PrimeBlocksModel", name := "readsSum", desc := "()Z" } : Jvm.MethodName)) ∈ ztbl := zmemT 1362 (by decide +kernel) (by decide +kernel)
theorem wd_1364 : (Jvm.Cond.instanceMethod ({ cls := "PrimeBlocksModel", name := "readsSum", desc := "()Z" } : Jvm.MethodName)) ∈ ztbl := zmemT 1364 (by decide +kernel) (by decide +kernel)
theorem wd_1365 : (Jvm.Cond.code ({ cls := "PrimeBlocksModel", name := "readsSum", desc := "()Z" } : Jvm.MethodName) prog_11_method_80_code (4 : Nat) (Option.some Jvm.ClassFile.FieldType.boolean)) ∈ ztbl := zmemT 1365 (by decide +kernel) (by decide +kernel)
theorem wd_1366 : (Jvm.Cond.methodLink "PrimeBlocksModel" (402 : Nat) ({ cls := "PrimeBlocksModel", name := "begin", desc := "()V" } : Jvm.MethodName)) ∈ ztbl := zmemT 1366 (by decide +kernel) (by decide +kernel)
theorem wd_1368 : (Jvm.Cond.instanceMethod ({ cls := "PrimeBlocksModel", name := "begin", desc := "()V" } : Jvm.MethodName)) ∈ ztbl := zmemT 1368 (by decide +kernel) (by decide +kernel)
theorem wd_1369 : (Jvm.Cond.code ({ cls := "PrimeBlocksModel", name := "begin", desc := "()V" } : Jvm.MethodName) prog_11_method_69_code (1 : Nat) (Option.none : Option Jvm.ClassFile.FieldType)) ∈ ztbl := zmemT 1369 (by decide +kernel) (by decide +kernel)
theorem wd_1370 : (Jvm.Cond.methodLink "PrimeBlocksModel" (364 : Nat) ({ cls := "PrimeBlocksModel", name := "see", desc := "()I" } : Jvm.MethodName)) ∈ ztbl := zmemT 1370 (by decide +kernel) (by decide +kernel)
theorem wd_1372 : (Jvm.Cond.instanceMethod ({ cls := "PrimeBlocksModel", name := "see", desc := "()I" } : Jvm.MethodName)) ∈ ztbl := zmemT 1372 (by decide +kernel) (by decide +kernel)
theorem wd_1373 : (Jvm.Cond.code ({ cls := "PrimeBlocksModel", name := "see", desc := "()I" } : Jvm.MethodName) prog_11_method_67_code (1 : Nat) (Option.some Jvm.ClassFile.FieldType.int)) ∈ ztbl := zmemT 1373 (by decide +kernel) (by decide +kernel)
theorem wd_1374 : (Jvm.Cond.methodLink "PrimeBlocksModel" (425 : Nat) ({ cls := "PrimeBlocksModel", name := "readsTerm", desc := "()Z" } : Jvm.MethodName)) ∈ ztbl := zmemT 1374 (by decide +kernel) (by decide +kernel)
theorem wd_1376 : (Jvm.Cond.instanceMethod ({ cls := "PrimeBlocksModel", name := "readsTerm", desc := "()Z" } : Jvm.MethodName)) ∈ ztbl := zmemT 1376 (by decide +kernel) (by decide +kernel)
theorem wd_1377 : (Jvm.Cond.code ({ cls := "PrimeBlocksModel", name := "readsTerm", desc := "()Z" } : Jvm.MethodName) prog_11_method_79_code (6 : Nat) (Option.some Jvm.ClassFile.FieldType.boolean)) ∈ ztbl := zmemT 1377 (by decide +kernel) (by decide +kernel)
theorem wd_1378 : (Jvm.Cond.methodLink "PrimeBlocksModel" (418 : Nat) ({ cls := "PrimeBlocksModel", name := "readsFactor", desc := "()Z" } : Jvm.MethodName)) ∈ ztbl := zmemT 1378 (by decide +kernel) (by decide +kernel)
theorem wd_1380 : (Jvm.Cond.instanceMethod ({ cls := "PrimeBlocksModel", name := "readsFactor", desc := "()Z" } : Jvm.MethodName)) ∈ ztbl := zmemT 1380 (by decide +kernel) (by decide +kernel)
theorem wd_1381 : (Jvm.Cond.code ({ cls := "PrimeBlocksModel", name := "readsFactor", desc := "()Z" } : Jvm.MethodName) prog_11_method_77_code (4 : Nat) (Option.some Jvm.ClassFile.FieldType.boolean)) ∈ ztbl := zmemT 1381 (by decide +kernel) (by decide +kernel)
theorem wd_1382 : (Jvm.Cond.methodLink "PrimeBlocksModel" (405 : Nat) ({ cls := "PrimeBlocksModel", name := "readsInner", desc := "()Z" } : Jvm.MethodName)) ∈ ztbl := zmemT 1382 (by decide +kernel) (by decide +kernel)
theorem wd_1384 : (Jvm.Cond.instanceMethod ({ cls := "PrimeBlocksModel", name := "readsInner", desc := "()Z" } : Jvm.MethodName)) ∈ ztbl := zmemT 1384 (by decide +kernel) (by decide +kernel)
theorem wd_1385 : (Jvm.Cond.code ({ cls := "PrimeBlocksModel", name := "readsInner", desc := "()Z" } : Jvm.MethodName) prog_11_method_76_code (2 : Nat) (Option.some Jvm.ClassFile.FieldType.boolean)) ∈ ztbl := zmemT 1385 (by decide +kernel) (by decide +kernel)
theorem wd_1386 : (Jvm.Cond.methodLink "PrimeBlocksModel" (377 : Nat) ({ cls := "PrimeBlocksModel", name := "fails", desc := "(II)Z" } : Jvm.MethodName)) ∈ ztbl := zmemT 1386 (by decide +kernel) (by decide +kernel)
theorem wd_1388 : (Jvm.Cond.instanceMethod ({ cls := "PrimeBlocksModel", name := "fails", desc := "(II)Z" } : Jvm.MethodName)) ∈ ztbl := zmemT 1388 (by decide +kernel) (by decide +kernel)
theorem wd_1389 : (Jvm.Cond.code ({ cls := "PrimeBlocksModel", name := "fails", desc := "(II)Z" } : Jvm.MethodName) prog_11_method_68_code (4 : Nat) (Option.some Jvm.ClassFile.FieldType.boolean)) ∈ ztbl := zmemT 1389 (by decide +kernel) (by decide +kernel)
theorem wd_1390 : (Jvm.Cond.methodLink "PrimeBlocksModel" (408 : Nat) ({ cls := "PrimeBlocksModel", name := "readsNamed", desc := "(I)Z" } : Jvm.MethodName)) ∈ ztbl := zmemT 1390 (by decide +kernel) (by decide +kernel)
theorem wd_1392 : (Jvm.Cond.instanceMethod ({ cls := "PrimeBlocksModel", name := "readsNamed", desc := "(I)Z" } : Jvm.MethodName)) ∈ ztbl := zmemT 1392 (by decide +kernel) (by decide +kernel)
theorem wd_1393 : (Jvm.Cond.code ({ cls := "PrimeBlocksModel", name := "readsNamed", desc := "(I)Z" } : Jvm.MethodName) prog_11_method_74_code (6 : Nat) (Option.some Jvm.ClassFile.FieldType.boolean)) ∈ ztbl := zmemT 1393 (by decide +kernel) (by decide +kernel)
theorem wd_1394 : (Jvm.Cond.methodLink "PrimeBlocksModel" (393 : Nat) ({ cls := "PrimeBlocksModel", name := "readsPart", desc := "()I" } : Jvm.MethodName)) ∈ ztbl := zmemT 1394 (by decide +kernel) (by decide +kernel)
theorem wd_1396 : (Jvm.Cond.instanceMethod ({ cls := "PrimeBlocksModel", name := "readsPart", desc := "()I" } : Jvm.MethodName)) ∈ ztbl := zmemT 1396 (by decide +kernel) (by decide +kernel)
theorem wd_1397 : (Jvm.Cond.code ({ cls := "PrimeBlocksModel", name := "readsPart", desc := "()I" } : Jvm.MethodName) prog_11_method_71_code (5 : Nat) (Option.some Jvm.ClassFile.FieldType.int)) ∈ ztbl := zmemT 1397 (by decide +kernel) (by decide +kernel)
theorem wd_1398 : (Jvm.Cond.methodLink "PrimeBlocksModel" (383 : Nat) ({ cls := "PrimeBlocksModel", name := "readsNumber", desc := "()Z" } : Jvm.MethodName)) ∈ ztbl := zmemT 1398 (by decide +kernel) (by decide +kernel)
theorem wd_1400 : (Jvm.Cond.instanceMethod ({ cls := "PrimeBlocksModel", name := "readsNumber", desc := "()Z" } : Jvm.MethodName)) ∈ ztbl := zmemT 1400 (by decide +kernel) (by decide +kernel)
theorem wd_1401 : (Jvm.Cond.code ({ cls := "PrimeBlocksModel", name := "readsNumber", desc := "()Z" } : Jvm.MethodName) prog_11_method_70_code (1 : Nat) (Option.some Jvm.ClassFile.FieldType.boolean)) ∈ ztbl := zmemT 1401 (by decide +kernel) (by decide +kernel)
theorem wd_1402 : (Jvm.Cond.constantLong "PrimeBlocksModel" (373 : Nat) (48 : Int64)) ∈ ztbl := zmemT 1402 (by decide +kernel) (by decide +kernel)
theorem wd_1403 : (Jvm.Cond.constantLong "PrimeBlocksModel" (375 : Nat) (57 : Int64)) ∈ ztbl := zmemT 1403 (by decide +kernel) (by decide +kernel)
theorem wd_1404 : (Jvm.Cond.methodLink "PrimeBlocksModel" (387 : Nat) ({ cls := "PrimeBlocksModel", name := "isListed", desc := "(I)Z" } : Jvm.MethodName)) ∈ ztbl := zmemT 1404 (by decide +kernel) (by decide +kernel)
theorem wd_1406 : (Jvm.Cond.instanceMethod ({ cls := "PrimeBlocksModel", name := "isListed", desc := "(I)Z" } : Jvm.MethodName)) ∈ ztbl := zmemT 1406 (by decide +kernel) (by decide +kernel)
theorem wd_1407 : (Jvm.Cond.code ({ cls := "PrimeBlocksModel", name := "isListed", desc := "(I)Z" } : Jvm.MethodName) prog_11_method_72_code (3 : Nat) (Option.some Jvm.ClassFile.FieldType.boolean)) ∈ ztbl := zmemT 1407 (by decide +kernel) (by decide +kernel)
theorem wd_1408 : (Jvm.Cond.methodLink "PrimeBlocksModel" (390 : Nat) ({ cls := "PrimeBlocksModel", name := "fillings", desc := "(III)I" } : Jvm.MethodName)) ∈ ztbl := zmemT 1408 (by decide +kernel) (by decide +kernel)
theorem wd_1410 : (Jvm.Cond.instanceMethod ({ cls := "PrimeBlocksModel", name := "fillings", desc := "(III)I" } : Jvm.MethodName)) ∈ ztbl := zmemT 1410 (by decide +kernel) (by decide +kernel)
theorem wd_1411 : (Jvm.Cond.code ({ cls := "PrimeBlocksModel", name := "fillings", desc := "(III)I" } : Jvm.MethodName) prog_11_method_73_code (6 : Nat) (Option.some Jvm.ClassFile.FieldType.int)) ∈ ztbl := zmemT 1411 (by decide +kernel) (by decide +kernel)
theorem wd_1412 : (Jvm.Cond.methodLink "PrimeBlocksModel" (411 : Nat) ({ cls := "PrimeBlocksModel", name := "readsSlot", desc := "()Z" } : Jvm.MethodName)) ∈ ztbl := zmemT 1412 (by decide +kernel) (by decide +kernel)
theorem wd_1414 : (Jvm.Cond.instanceMethod ({ cls := "PrimeBlocksModel", name := "readsSlot", desc := "()Z" } : Jvm.MethodName)) ∈ ztbl := zmemT 1414 (by decide +kernel) (by decide +kernel)
theorem wd_1415 : (Jvm.Cond.code ({ cls := "PrimeBlocksModel", name := "readsSlot", desc := "()Z" } : Jvm.MethodName) prog_11_method_75_code (2 : Nat) (Option.some Jvm.ClassFile.FieldType.boolean)) ∈ ztbl := zmemT 1415 (by decide +kernel) (by decide +kernel)
theorem wd_1416 : (Jvm.Cond.methodLink "PrimeBlocksModel" (421 : Nat) ({ cls := "java/lang/Math", name := "abs", desc := "(J)J" } : Jvm.MethodName)) ∈ ztbl := zmemT 1416 (by decide +kernel) (by decide +kernel)
theorem wd_1417 : (Jvm.Cond.constantLong "PrimeBlocksModel" (416 : Nat) (1000000000000 : Int64)) ∈ ztbl := zmemT 1417 (by decide +kernel) (by decide +kernel)
theorem wd_1418 : (Jvm.Cond.methodLink "PrimeBlocksModel" (428 : Nat) ({ cls := "PrimeBlocksModel", name := "areNear", desc := "([J)Z" } : Jvm.MethodName)) ∈ ztbl := zmemT 1418 (by decide +kernel) (by decide +kernel)
theorem wd_1420 : (Jvm.Cond.instanceMethod ({ cls := "PrimeBlocksModel", name := "areNear", desc := "([J)Z" } : Jvm.MethodName)) ∈ ztbl := zmemT 1420 (by decide +kernel) (by decide +kernel)
theorem wd_1421 : (Jvm.Cond.code ({ cls := "PrimeBlocksModel", name := "areNear", desc := "([J)Z" } : Jvm.MethodName) prog_11_method_78_code (3 : Nat) (Option.some Jvm.ClassFile.FieldType.boolean)) ∈ ztbl := zmemT 1421 (by decide +kernel) (by decide +kernel)
theorem wd_1422 : (Jvm.Cond.constantLong "PrimeBlocksModel" (414 : Nat) (-1000000000000 : Int64)) ∈ ztbl := zmemT 1422 (by decide +kernel) (by decide +kernel)
theorem ws_87 : (Jvm.Cond.selects "PrimeBlocksModel" ({ cls := "PrimeBlocksModel", name := "readsSum", desc := "()Z" } : Jvm.MethodName) ({ cls := "PrimeBlocksModel", name := "readsSum", desc := "()Z" } : Jvm.MethodName)) ∈ ztbl := zmem 87 (by decide +kernel) (by decide +kernel)
theorem ws_88 : (Jvm.Cond.selects "PrimeBlocksModel" ({ cls := "PrimeBlocksModel", name := "begin", desc := "()V" } : Jvm.MethodName) ({ cls := "PrimeBlocksModel", name := "begin", desc := "()V" } : Jvm.MethodName)) ∈ ztbl := zmem 88 (by decide +kernel) (by decide +kernel)
theorem ws_89 : (Jvm.Cond.selects "PrimeBlocksModel" ({ cls := "PrimeBlocksModel", name := "see", desc := "()I" } : Jvm.MethodName) ({ cls := "PrimeBlocksModel", name := "see", desc := "()I" } : Jvm.MethodName)) ∈ ztbl := zmem 89 (by decide +kernel) (by decide +kernel)
theorem ws_90 : (Jvm.Cond.selects "PrimeBlocksModel" ({ cls := "PrimeBlocksModel", name := "readsTerm", desc := "()Z" } : Jvm.MethodName) ({ cls := "PrimeBlocksModel", name := "readsTerm", desc := "()Z" } : Jvm.MethodName)) ∈ ztbl := zmem 90 (by decide +kernel) (by decide +kernel)
theorem ws_91 : (Jvm.Cond.selects "PrimeBlocksModel" ({ cls := "PrimeBlocksModel", name := "readsFactor", desc := "()Z" } : Jvm.MethodName) ({ cls := "PrimeBlocksModel", name := "readsFactor", desc := "()Z" } : Jvm.MethodName)) ∈ ztbl := zmem 91 (by decide +kernel) (by decide +kernel)
theorem ws_92 : (Jvm.Cond.selects "PrimeBlocksModel" ({ cls := "PrimeBlocksModel", name := "readsInner", desc := "()Z" } : Jvm.MethodName) ({ cls := "PrimeBlocksModel", name := "readsInner", desc := "()Z" } : Jvm.MethodName)) ∈ ztbl := zmem 92 (by decide +kernel) (by decide +kernel)
theorem ws_93 : (Jvm.Cond.selects "PrimeBlocksModel" ({ cls := "PrimeBlocksModel", name := "fails", desc := "(II)Z" } : Jvm.MethodName) ({ cls := "PrimeBlocksModel", name := "fails", desc := "(II)Z" } : Jvm.MethodName)) ∈ ztbl := zmem 93 (by decide +kernel) (by decide +kernel)
theorem ws_94 : (Jvm.Cond.selects "PrimeBlocksModel" ({ cls := "PrimeBlocksModel", name := "readsNamed", desc := "(I)Z" } : Jvm.MethodName) ({ cls := "PrimeBlocksModel", name := "readsNamed", desc := "(I)Z" } : Jvm.MethodName)) ∈ ztbl := zmem 94 (by decide +kernel) (by decide +kernel)
theorem ws_95 : (Jvm.Cond.selects "PrimeBlocksModel" ({ cls := "PrimeBlocksModel", name := "readsPart", desc := "()I" } : Jvm.MethodName) ({ cls := "PrimeBlocksModel", name := "readsPart", desc := "()I" } : Jvm.MethodName)) ∈ ztbl := zmem 95 (by decide +kernel) (by decide +kernel)
theorem ws_96 : (Jvm.Cond.selects "PrimeBlocksModel" ({ cls := "PrimeBlocksModel", name := "readsNumber", desc := "()Z" } : Jvm.MethodName) ({ cls := "PrimeBlocksModel", name := "readsNumber", desc := "()Z" } : Jvm.MethodName)) ∈ ztbl := zmem 96 (by decide +kernel) (by decide +kernel)
theorem ws_97 : (Jvm.Cond.selects "PrimeBlocksModel" ({ cls := "PrimeBlocksModel", name := "isListed", desc := "(I)Z" } : Jvm.MethodName) ({ cls := "PrimeBlocksModel", name := "isListed", desc := "(I)Z" } : Jvm.MethodName)) ∈ ztbl := zmem 97 (by decide +kernel) (by decide +kernel)
theorem ws_98 : (Jvm.Cond.selects "PrimeBlocksModel" ({ cls := "PrimeBlocksModel", name := "fillings", desc := "(III)I" } : Jvm.MethodName) ({ cls := "PrimeBlocksModel", name := "fillings", desc := "(III)I" } : Jvm.MethodName)) ∈ ztbl := zmem 98 (by decide +kernel) (by decide +kernel)
theorem ws_99 : (Jvm.Cond.selects "PrimeBlocksModel" ({ cls := "PrimeBlocksModel", name := "readsSlot", desc := "()Z" } : Jvm.MethodName) ({ cls := "PrimeBlocksModel", name := "readsSlot", desc := "()Z" } : Jvm.MethodName)) ∈ ztbl := zmem 99 (by decide +kernel) (by decide +kernel)
theorem ws_100 : (Jvm.Cond.selects "PrimeBlocksModel" ({ cls := "PrimeBlocksModel", name := "areNear", desc := "([J)Z" } : Jvm.MethodName) ({ cls := "PrimeBlocksModel", name := "areNear", desc := "([J)Z" } : Jvm.MethodName)) ∈ ztbl := zmem 100 (by decide +kernel) (by decide +kernel)
theorem zc_b_32 : zi (Int8.ofInt (32)).toInt32 = 32 := by decide
theorem zc_cl_48 : zj (48 : Int64) = 48 := by decide
theorem zc_cl_57 : zj (57 : Int64) = 57 := by decide
theorem zc_b_48 : zi (Int8.ofInt (48)).toInt32 = 48 := by decide
theorem zc_b_44 : zi (Int8.ofInt (44)).toInt32 = 44 := by decide
theorem zc_b_93 : zi (Int8.ofInt (93)).toInt32 = 93 := by decide
theorem zc_b_91 : zi (Int8.ofInt (91)).toInt32 = 91 := by decide
theorem zc_b_68 : zi (Int8.ofInt (68)).toInt32 = 68 := by decide
theorem zc_b_80 : zi (Int8.ofInt (80)).toInt32 = 80 := by decide
theorem zc_b_77 : zi (Int8.ofInt (77)).toInt32 = 77 := by decide
theorem zc_cl_m1000000000000 : zj (-1000000000000 : Int64) = 18446743073709551616 := by decide
theorem zc_cl_1000000000000 : zj (1000000000000 : Int64) = 1000000000000 := by decide
theorem zc_b_41 : zi (Int8.ofInt (41)).toInt32 = 41 := by decide
theorem zc_b_40 : zi (Int8.ofInt (40)).toInt32 = 40 := by decide
theorem zc_b_88 : zi (Int8.ofInt (88)).toInt32 = 88 := by decide
theorem zc_b_83 : zi (Int8.ofInt (83)).toInt32 = 83 := by decide
theorem zc_b_42 : zi (Int8.ofInt (42)).toInt32 = 42 := by decide
theorem zc_b_43 : zi (Int8.ofInt (43)).toInt32 = 43 := by decide
theorem zc_b_45 : zi (Int8.ofInt (45)).toInt32 = 45 := by decide
