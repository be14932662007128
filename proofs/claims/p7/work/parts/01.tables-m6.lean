section
-- ===== PART A: goes FIRST, ahead of the names: the tables' words, and 'selects' of the private methods out of them =====
/-- a private method of a class that the tables say can be made, by its rows of tables_1 -/
def lw_okq (q : MethodName × Nat) : Prop := (q.1.cls ≠ "java/lang/invoke/MethodHandle" ∧ q.1.cls ≠ "java/lang/invoke/VarHandle") ∧ Cond.instantiable q.1.cls q.2 ∈ tables_1 ∧ Cond.privateMethod q.1 ∈ tables_1 ∧ Cond.instanceMethod q.1 ∈ tables_1
theorem lw_p0 : lw_okq (⟨"PrimeBlocks$Things", "makeShapes", "()V"⟩, 14) := ⟨⟨by decide +kernel, by decide +kernel⟩, List.mem_of_getElem? (i := 47) (by decide +kernel), List.mem_of_getElem? (i := 57) (by decide +kernel), List.mem_of_getElem? (i := 58) (by decide +kernel)⟩
theorem lw_p1 : lw_okq (⟨"PrimeBlocks$Shape", "layOut", "()V"⟩, 16) := ⟨⟨by decide +kernel, by decide +kernel⟩, List.mem_of_getElem? (i := 60) (by decide +kernel), List.mem_of_getElem? (i := 82) (by decide +kernel), List.mem_of_getElem? (i := 83) (by decide +kernel)⟩
theorem lw_p2 : lw_okq (⟨"PrimeBlocks$Shape", "countTableaux", "()I"⟩, 16) := ⟨⟨by decide +kernel, by decide +kernel⟩, List.mem_of_getElem? (i := 60) (by decide +kernel), List.mem_of_getElem? (i := 86) (by decide +kernel), List.mem_of_getElem? (i := 87) (by decide +kernel)⟩
theorem lw_p3 : lw_okq (⟨"PrimeBlocks$Shape", "fillTableaux", "(II)V"⟩, 16) := ⟨⟨by decide +kernel, by decide +kernel⟩, List.mem_of_getElem? (i := 60) (by decide +kernel), List.mem_of_getElem? (i := 99) (by decide +kernel), List.mem_of_getElem? (i := 100) (by decide +kernel)⟩
theorem lw_p4 : lw_okq (⟨"PrimeBlocks$Shape", "countWays", "()I"⟩, 16) := ⟨⟨by decide +kernel, by decide +kernel⟩, List.mem_of_getElem? (i := 60) (by decide +kernel), List.mem_of_getElem? (i := 107) (by decide +kernel), List.mem_of_getElem? (i := 108) (by decide +kernel)⟩
theorem lw_p5 : lw_okq (⟨"PrimeBlocks$Shape", "fillWays", "(III)V"⟩, 16) := ⟨⟨by decide +kernel, by decide +kernel⟩, List.mem_of_getElem? (i := 60) (by decide +kernel), List.mem_of_getElem? (i := 114) (by decide +kernel), List.mem_of_getElem? (i := 115) (by decide +kernel)⟩
theorem lw_p6 : lw_okq (⟨"PrimeBlocks$Shape", "weighNumbers", "()V"⟩, 16) := ⟨⟨by decide +kernel, by decide +kernel⟩, List.mem_of_getElem? (i := 60) (by decide +kernel), List.mem_of_getElem? (i := 124) (by decide +kernel), List.mem_of_getElem? (i := 125) (by decide +kernel)⟩
theorem lw_p7 : lw_okq (⟨"PrimeBlocks$Things", "describeClass", "(I)V"⟩, 14) := ⟨⟨by decide +kernel, by decide +kernel⟩, List.mem_of_getElem? (i := 47) (by decide +kernel), List.mem_of_getElem? (i := 196) (by decide +kernel), List.mem_of_getElem? (i := 197) (by decide +kernel)⟩
theorem lw_p8 : lw_okq (⟨"PrimeBlocks$Things", "makePowers", "()V"⟩, 14) := ⟨⟨by decide +kernel, by decide +kernel⟩, List.mem_of_getElem? (i := 47) (by decide +kernel), List.mem_of_getElem? (i := 207) (by decide +kernel), List.mem_of_getElem? (i := 208) (by decide +kernel)⟩
theorem lw_p9 : lw_okq (⟨"PrimeBlocks$Things", "raise", "([II[I)I"⟩, 14) := ⟨⟨by decide +kernel, by decide +kernel⟩, List.mem_of_getElem? (i := 47) (by decide +kernel), List.mem_of_getElem? (i := 211) (by decide +kernel), List.mem_of_getElem? (i := 212) (by decide +kernel)⟩
theorem lw_p10 : lw_okq (⟨"PrimeBlocks$Things", "makeMarks", "()V"⟩, 14) := ⟨⟨by decide +kernel, by decide +kernel⟩, List.mem_of_getElem? (i := 47) (by decide +kernel), List.mem_of_getElem? (i := 218) (by decide +kernel), List.mem_of_getElem? (i := 219) (by decide +kernel)⟩
theorem lw_p11 : lw_okq (⟨"PrimeBlocks$Things", "makeCharacters", "()V"⟩, 14) := ⟨⟨by decide +kernel, by decide +kernel⟩, List.mem_of_getElem? (i := 47) (by decide +kernel), List.mem_of_getElem? (i := 227) (by decide +kernel), List.mem_of_getElem? (i := 228) (by decide +kernel)⟩
theorem lw_p12 : lw_okq (⟨"PrimeBlocks$Things", "timesIn", "([I[I)I"⟩, 14) := ⟨⟨by decide +kernel, by decide +kernel⟩, List.mem_of_getElem? (i := 47) (by decide +kernel), List.mem_of_getElem? (i := 232) (by decide +kernel), List.mem_of_getElem? (i := 233) (by decide +kernel)⟩
theorem lw_p13 : lw_okq (⟨"PrimeBlocks$Things", "countCodes", "()I"⟩, 14) := ⟨⟨by decide +kernel, by decide +kernel⟩, List.mem_of_getElem? (i := 47) (by decide +kernel), List.mem_of_getElem? (i := 236) (by decide +kernel), List.mem_of_getElem? (i := 237) (by decide +kernel)⟩
theorem lw_p14 : lw_okq (⟨"PrimeBlocks$Shape", "codeOf", "([II[I)I"⟩, 16) := ⟨⟨by decide +kernel, by decide +kernel⟩, List.mem_of_getElem? (i := 60) (by decide +kernel), List.mem_of_getElem? (i := 249) (by decide +kernel), List.mem_of_getElem? (i := 250) (by decide +kernel)⟩
theorem lw_p15 : lw_okq (⟨"PrimeBlocks$Shape", "formWith", "([I[I)I"⟩, 16) := ⟨⟨by decide +kernel, by decide +kernel⟩, List.mem_of_getElem? (i := 60) (by decide +kernel), List.mem_of_getElem? (i := 257) (by decide +kernel), List.mem_of_getElem? (i := 258) (by decide +kernel)⟩
def lw_privs_1 : List (MethodName × Nat) := [(⟨"PrimeBlocks$Things", "makeShapes", "()V"⟩, 14), (⟨"PrimeBlocks$Shape", "layOut", "()V"⟩, 16), (⟨"PrimeBlocks$Shape", "countTableaux", "()I"⟩, 16), (⟨"PrimeBlocks$Shape", "fillTableaux", "(II)V"⟩, 16), (⟨"PrimeBlocks$Shape", "countWays", "()I"⟩, 16), (⟨"PrimeBlocks$Shape", "fillWays", "(III)V"⟩, 16), (⟨"PrimeBlocks$Shape", "weighNumbers", "()V"⟩, 16), (⟨"PrimeBlocks$Things", "describeClass", "(I)V"⟩, 14), (⟨"PrimeBlocks$Things", "makePowers", "()V"⟩, 14), (⟨"PrimeBlocks$Things", "raise", "([II[I)I"⟩, 14), (⟨"PrimeBlocks$Things", "makeMarks", "()V"⟩, 14), (⟨"PrimeBlocks$Things", "makeCharacters", "()V"⟩, 14), (⟨"PrimeBlocks$Things", "timesIn", "([I[I)I"⟩, 14), (⟨"PrimeBlocks$Things", "countCodes", "()I"⟩, 14), (⟨"PrimeBlocks$Shape", "codeOf", "([II[I)I"⟩, 16), (⟨"PrimeBlocks$Shape", "formWith", "([I[I)I"⟩, 16)]
theorem lw_r1 : ∀ q ∈ lw_privs_1, lw_okq q := List.forall_mem_cons.mpr ⟨lw_p0, List.forall_mem_cons.mpr ⟨lw_p1, List.forall_mem_cons.mpr ⟨lw_p2, List.forall_mem_cons.mpr ⟨lw_p3, List.forall_mem_cons.mpr ⟨lw_p4, List.forall_mem_cons.mpr ⟨lw_p5, List.forall_mem_cons.mpr ⟨lw_p6, List.forall_mem_cons.mpr ⟨lw_p7, List.forall_mem_cons.mpr ⟨lw_p8, List.forall_mem_cons.mpr ⟨lw_p9, List.forall_mem_cons.mpr ⟨lw_p10, List.forall_mem_cons.mpr ⟨lw_p11, List.forall_mem_cons.mpr ⟨lw_p12, List.forall_mem_cons.mpr ⟨lw_p13, List.forall_mem_cons.mpr ⟨lw_p14, List.forall_mem_cons.mpr ⟨lw_p15, fun _ h => absurd h List.not_mem_nil⟩⟩⟩⟩⟩⟩⟩⟩⟩⟩⟩⟩⟩⟩⟩⟩
theorem lw_p16 : lw_okq (⟨"PrimeBlocks$Split", "markRegular", "()V"⟩, 12) := ⟨⟨by decide +kernel, by decide +kernel⟩, List.mem_of_getElem? (i := 327) (by decide +kernel), List.mem_of_getElem? (i := 333) (by decide +kernel), List.mem_of_getElem? (i := 334) (by decide +kernel)⟩
theorem lw_p17 : lw_okq (⟨"PrimeBlocks$Split", "makeModulars", "()V"⟩, 12) := ⟨⟨by decide +kernel, by decide +kernel⟩, List.mem_of_getElem? (i := 327) (by decide +kernel), List.mem_of_getElem? (i := 341) (by decide +kernel), List.mem_of_getElem? (i := 342) (by decide +kernel)⟩
theorem lw_p18 : lw_okq (⟨"PrimeBlocks$Residues", "inverse", "(I)I"⟩, 2) := ⟨⟨by decide +kernel, by decide +kernel⟩, List.mem_of_getElem? (i := 346) (by decide +kernel), List.mem_of_getElem? (i := 376) (by decide +kernel), List.mem_of_getElem? (i := 377) (by decide +kernel)⟩
theorem lw_p19 : lw_okq (⟨"PrimeBlocks$Residues", "scale", "([III)V"⟩, 2) := ⟨⟨by decide +kernel, by decide +kernel⟩, List.mem_of_getElem? (i := 346) (by decide +kernel), List.mem_of_getElem? (i := 380) (by decide +kernel), List.mem_of_getElem? (i := 381) (by decide +kernel)⟩
theorem lw_p20 : lw_okq (⟨"PrimeBlocks$Residues", "takeAway", "([II[II)V"⟩, 2) := ⟨⟨by decide +kernel, by decide +kernel⟩, List.mem_of_getElem? (i := 346) (by decide +kernel), List.mem_of_getElem? (i := 384) (by decide +kernel), List.mem_of_getElem? (i := 385) (by decide +kernel)⟩
theorem lw_p21 : lw_okq (⟨"PrimeBlocks$Split", "makeFixed", "(I[[ILPrimeBlocks$Residues;[I)V"⟩, 12) := ⟨⟨by decide +kernel, by decide +kernel⟩, List.mem_of_getElem? (i := 327) (by decide +kernel), List.mem_of_getElem? (i := 392) (by decide +kernel), List.mem_of_getElem? (i := 393) (by decide +kernel)⟩
theorem lw_p22 : lw_okq (⟨"PrimeBlocks$Split", "sumOfRoots", "(I[I)I"⟩, 12) := ⟨⟨by decide +kernel, by decide +kernel⟩, List.mem_of_getElem? (i := 327) (by decide +kernel), List.mem_of_getElem? (i := 397) (by decide +kernel), List.mem_of_getElem? (i := 398) (by decide +kernel)⟩
theorem lw_p23 : lw_okq (⟨"PrimeBlocks$Split", "dimensionsOfOrder", "(II[I)I"⟩, 12) := ⟨⟨by decide +kernel, by decide +kernel⟩, List.mem_of_getElem? (i := 327) (by decide +kernel), List.mem_of_getElem? (i := 403) (by decide +kernel), List.mem_of_getElem? (i := 404) (by decide +kernel)⟩
theorem lw_p24 : lw_okq (⟨"PrimeBlocks$Split", "makeDecompositions", "()V"⟩, 12) := ⟨⟨by decide +kernel, by decide +kernel⟩, List.mem_of_getElem? (i := 327) (by decide +kernel), List.mem_of_getElem? (i := 409) (by decide +kernel), List.mem_of_getElem? (i := 410) (by decide +kernel)⟩
theorem lw_p25 : lw_okq (⟨"PrimeBlocks$Split", "makeCartans", "()V"⟩, 12) := ⟨⟨by decide +kernel, by decide +kernel⟩, List.mem_of_getElem? (i := 327) (by decide +kernel), List.mem_of_getElem? (i := 413) (by decide +kernel), List.mem_of_getElem? (i := 414) (by decide +kernel)⟩
theorem lw_p26 : lw_okq (⟨"PrimeBlocks$Split", "makeProjectives", "()V"⟩, 12) := ⟨⟨by decide +kernel, by decide +kernel⟩, List.mem_of_getElem? (i := 327) (by decide +kernel), List.mem_of_getElem? (i := 417) (by decide +kernel), List.mem_of_getElem? (i := 418) (by decide +kernel)⟩
theorem lw_p27 : lw_okq (⟨"PrimeBlocks$Blocks", "join", "(IIZ)V"⟩, 8) := ⟨⟨by decide +kernel, by decide +kernel⟩, List.mem_of_getElem? (i := 421) (by decide +kernel), List.mem_of_getElem? (i := 434) (by decide +kernel), List.mem_of_getElem? (i := 435) (by decide +kernel)⟩
theorem lw_p28 : lw_okq (⟨"PrimeBlocks$Split", "makeDeterminants", "()V"⟩, 12) := ⟨⟨by decide +kernel, by decide +kernel⟩, List.mem_of_getElem? (i := 327) (by decide +kernel), List.mem_of_getElem? (i := 480) (by decide +kernel), List.mem_of_getElem? (i := 481) (by decide +kernel)⟩
theorem lw_p29 : lw_okq (⟨"PrimeBlocks$Reader", "readSum", "(I)Z"⟩, 15) := ⟨⟨by decide +kernel, by decide +kernel⟩, List.mem_of_getElem? (i := 541) (by decide +kernel), List.mem_of_getElem? (i := 688) (by decide +kernel), List.mem_of_getElem? (i := 689) (by decide +kernel)⟩
theorem lw_p30 : lw_okq (⟨"PrimeBlocks$Reader", "next", "()I"⟩, 15) := ⟨⟨by decide +kernel, by decide +kernel⟩, List.mem_of_getElem? (i := 541) (by decide +kernel), List.mem_of_getElem? (i := 692) (by decide +kernel), List.mem_of_getElem? (i := 693) (by decide +kernel)⟩
theorem lw_p31 : lw_okq (⟨"PrimeBlocks$Reader", "readTerm", "(I)Z"⟩, 15) := ⟨⟨by decide +kernel, by decide +kernel⟩, List.mem_of_getElem? (i := 541) (by decide +kernel), List.mem_of_getElem? (i := 696) (by decide +kernel), List.mem_of_getElem? (i := 697) (by decide +kernel)⟩
def lw_privs_2 : List (MethodName × Nat) := [(⟨"PrimeBlocks$Split", "markRegular", "()V"⟩, 12), (⟨"PrimeBlocks$Split", "makeModulars", "()V"⟩, 12), (⟨"PrimeBlocks$Residues", "inverse", "(I)I"⟩, 2), (⟨"PrimeBlocks$Residues", "scale", "([III)V"⟩, 2), (⟨"PrimeBlocks$Residues", "takeAway", "([II[II)V"⟩, 2), (⟨"PrimeBlocks$Split", "makeFixed", "(I[[ILPrimeBlocks$Residues;[I)V"⟩, 12), (⟨"PrimeBlocks$Split", "sumOfRoots", "(I[I)I"⟩, 12), (⟨"PrimeBlocks$Split", "dimensionsOfOrder", "(II[I)I"⟩, 12), (⟨"PrimeBlocks$Split", "makeDecompositions", "()V"⟩, 12), (⟨"PrimeBlocks$Split", "makeCartans", "()V"⟩, 12), (⟨"PrimeBlocks$Split", "makeProjectives", "()V"⟩, 12), (⟨"PrimeBlocks$Blocks", "join", "(IIZ)V"⟩, 8), (⟨"PrimeBlocks$Split", "makeDeterminants", "()V"⟩, 12), (⟨"PrimeBlocks$Reader", "readSum", "(I)Z"⟩, 15), (⟨"PrimeBlocks$Reader", "next", "()I"⟩, 15), (⟨"PrimeBlocks$Reader", "readTerm", "(I)Z"⟩, 15)]
theorem lw_r2 : ∀ q ∈ lw_privs_2, lw_okq q := List.forall_mem_cons.mpr ⟨lw_p16, List.forall_mem_cons.mpr ⟨lw_p17, List.forall_mem_cons.mpr ⟨lw_p18, List.forall_mem_cons.mpr ⟨lw_p19, List.forall_mem_cons.mpr ⟨lw_p20, List.forall_mem_cons.mpr ⟨lw_p21, List.forall_mem_cons.mpr ⟨lw_p22, List.forall_mem_cons.mpr ⟨lw_p23, List.forall_mem_cons.mpr ⟨lw_p24, List.forall_mem_cons.mpr ⟨lw_p25, List.forall_mem_cons.mpr ⟨lw_p26, List.forall_mem_cons.mpr ⟨lw_p27, List.forall_mem_cons.mpr ⟨lw_p28, List.forall_mem_cons.mpr ⟨lw_p29, List.forall_mem_cons.mpr ⟨lw_p30, List.forall_mem_cons.mpr ⟨lw_p31, fun _ h => absurd h List.not_mem_nil⟩⟩⟩⟩⟩⟩⟩⟩⟩⟩⟩⟩⟩⟩⟩⟩
theorem lw_p32 : lw_okq (⟨"PrimeBlocks$Reader", "readFactor", "(I)Z"⟩, 15) := ⟨⟨by decide +kernel, by decide +kernel⟩, List.mem_of_getElem? (i := 541) (by decide +kernel), List.mem_of_getElem? (i := 700) (by decide +kernel), List.mem_of_getElem? (i := 701) (by decide +kernel)⟩
theorem lw_p33 : lw_okq (⟨"PrimeBlocks$Reader", "readConstant", "(I)Z"⟩, 15) := ⟨⟨by decide +kernel, by decide +kernel⟩, List.mem_of_getElem? (i := 541) (by decide +kernel), List.mem_of_getElem? (i := 707) (by decide +kernel), List.mem_of_getElem? (i := 708) (by decide +kernel)⟩
theorem lw_p34 : lw_okq (⟨"PrimeBlocks$Reader", "readNumber", "()I"⟩, 15) := ⟨⟨by decide +kernel, by decide +kernel⟩, List.mem_of_getElem? (i := 541) (by decide +kernel), List.mem_of_getElem? (i := 711) (by decide +kernel), List.mem_of_getElem? (i := 712) (by decide +kernel)⟩
theorem lw_p35 : lw_okq (⟨"PrimeBlocks$Reader", "readList", "()Z"⟩, 15) := ⟨⟨by decide +kernel, by decide +kernel⟩, List.mem_of_getElem? (i := 541) (by decide +kernel), List.mem_of_getElem? (i := 719) (by decide +kernel), List.mem_of_getElem? (i := 720) (by decide +kernel)⟩
theorem lw_p36 : lw_okq (⟨"PrimeBlocks$Reader", "refuse", "(I)Z"⟩, 15) := ⟨⟨by decide +kernel, by decide +kernel⟩, List.mem_of_getElem? (i := 541) (by decide +kernel), List.mem_of_getElem? (i := 723) (by decide +kernel), List.mem_of_getElem? (i := 724) (by decide +kernel)⟩
theorem lw_p37 : lw_okq (⟨"PrimeBlocks$Reader", "takeCharacter", "(II)Z"⟩, 15) := ⟨⟨by decide +kernel, by decide +kernel⟩, List.mem_of_getElem? (i := 541) (by decide +kernel), List.mem_of_getElem? (i := 727) (by decide +kernel), List.mem_of_getElem? (i := 728) (by decide +kernel)⟩
theorem lw_p38 : lw_okq (⟨"PrimeBlocks$Reader", "fail", "(IIII)Z"⟩, 15) := ⟨⟨by decide +kernel, by decide +kernel⟩, List.mem_of_getElem? (i := 541) (by decide +kernel), List.mem_of_getElem? (i := 732) (by decide +kernel), List.mem_of_getElem? (i := 733) (by decide +kernel)⟩
theorem lw_p39 : lw_okq (⟨"PrimeBlocks$Reader", "rowFor", "(II)[I"⟩, 15) := ⟨⟨by decide +kernel, by decide +kernel⟩, List.mem_of_getElem? (i := 541) (by decide +kernel), List.mem_of_getElem? (i := 741) (by decide +kernel), List.mem_of_getElem? (i := 742) (by decide +kernel)⟩
theorem lw_p40 : lw_okq (⟨"PrimeBlocks$Reader", "copy", "([I[J)V"⟩, 15) := ⟨⟨by decide +kernel, by decide +kernel⟩, List.mem_of_getElem? (i := 541) (by decide +kernel), List.mem_of_getElem? (i := 745) (by decide +kernel), List.mem_of_getElem? (i := 746) (by decide +kernel)⟩
theorem lw_p41 : lw_okq (⟨"PrimeBlocks$Reader", "readSlot", "(I)Z"⟩, 15) := ⟨⟨by decide +kernel, by decide +kernel⟩, List.mem_of_getElem? (i := 541) (by decide +kernel), List.mem_of_getElem? (i := 749) (by decide +kernel), List.mem_of_getElem? (i := 750) (by decide +kernel)⟩
theorem lw_p42 : lw_okq (⟨"PrimeBlocks$Reader", "readInBrackets", "(I)Z"⟩, 15) := ⟨⟨by decide +kernel, by decide +kernel⟩, List.mem_of_getElem? (i := 541) (by decide +kernel), List.mem_of_getElem? (i := 755) (by decide +kernel), List.mem_of_getElem? (i := 756) (by decide +kernel)⟩
theorem lw_p43 : lw_okq (⟨"PrimeBlocks$Reader", "multiply", "([J[J)Z"⟩, 15) := ⟨⟨by decide +kernel, by decide +kernel⟩, List.mem_of_getElem? (i := 541) (by decide +kernel), List.mem_of_getElem? (i := 759) (by decide +kernel), List.mem_of_getElem? (i := 760) (by decide +kernel)⟩
theorem lw_p44 : lw_okq (⟨"PrimeBlocks$Reader", "add", "([JZ[J)Z"⟩, 15) := ⟨⟨by decide +kernel, by decide +kernel⟩, List.mem_of_getElem? (i := 541) (by decide +kernel), List.mem_of_getElem? (i := 767) (by decide +kernel), List.mem_of_getElem? (i := 768) (by decide +kernel)⟩
theorem lw_p45 : lw_okq (⟨"PrimeBlocks", "isPartition", "(I)Z"⟩, 8) := ⟨⟨by decide +kernel, by decide +kernel⟩, List.mem_of_getElem? (i := 16) (by decide +kernel), List.mem_of_getElem? (i := 781) (by decide +kernel), List.mem_of_getElem? (i := 782) (by decide +kernel)⟩
theorem lw_p46 : lw_okq (⟨"PrimeBlocks", "isRegularPartition", "(I)Z"⟩, 8) := ⟨⟨by decide +kernel, by decide +kernel⟩, List.mem_of_getElem? (i := 16) (by decide +kernel), List.mem_of_getElem? (i := 819) (by decide +kernel), List.mem_of_getElem? (i := 820) (by decide +kernel)⟩
theorem lw_p47 : lw_okq (⟨"PrimeBlocks", "timesFactorial", "([JIZ)J"⟩, 8) := ⟨⟨by decide +kernel, by decide +kernel⟩, List.mem_of_getElem? (i := 16) (by decide +kernel), List.mem_of_getElem? (i := 856) (by decide +kernel), List.mem_of_getElem? (i := 857) (by decide +kernel)⟩
def lw_privs_3 : List (MethodName × Nat) := [(⟨"PrimeBlocks$Reader", "readFactor", "(I)Z"⟩, 15), (⟨"PrimeBlocks$Reader", "readConstant", "(I)Z"⟩, 15), (⟨"PrimeBlocks$Reader", "readNumber", "()I"⟩, 15), (⟨"PrimeBlocks$Reader", "readList", "()Z"⟩, 15), (⟨"PrimeBlocks$Reader", "refuse", "(I)Z"⟩, 15), (⟨"PrimeBlocks$Reader", "takeCharacter", "(II)Z"⟩, 15), (⟨"PrimeBlocks$Reader", "fail", "(IIII)Z"⟩, 15), (⟨"PrimeBlocks$Reader", "rowFor", "(II)[I"⟩, 15), (⟨"PrimeBlocks$Reader", "copy", "([I[J)V"⟩, 15), (⟨"PrimeBlocks$Reader", "readSlot", "(I)Z"⟩, 15), (⟨"PrimeBlocks$Reader", "readInBrackets", "(I)Z"⟩, 15), (⟨"PrimeBlocks$Reader", "multiply", "([J[J)Z"⟩, 15), (⟨"PrimeBlocks$Reader", "add", "([JZ[J)Z"⟩, 15), (⟨"PrimeBlocks", "isPartition", "(I)Z"⟩, 8), (⟨"PrimeBlocks", "isRegularPartition", "(I)Z"⟩, 8), (⟨"PrimeBlocks", "timesFactorial", "([JIZ)J"⟩, 8)]
theorem lw_r3 : ∀ q ∈ lw_privs_3, lw_okq q := List.forall_mem_cons.mpr ⟨lw_p32, List.forall_mem_cons.mpr ⟨lw_p33, List.forall_mem_cons.mpr ⟨lw_p34, List.forall_mem_cons.mpr ⟨lw_p35, List.forall_mem_cons.mpr ⟨lw_p36, List.forall_mem_cons.mpr ⟨lw_p37, List.forall_mem_cons.mpr ⟨lw_p38, List.forall_mem_cons.mpr ⟨lw_p39, List.forall_mem_cons.mpr ⟨lw_p40, List.forall_mem_cons.mpr ⟨lw_p41, List.forall_mem_cons.mpr ⟨lw_p42, List.forall_mem_cons.mpr ⟨lw_p43, List.forall_mem_cons.mpr ⟨lw_p44, List.forall_mem_cons.mpr ⟨lw_p45, List.forall_mem_cons.mpr ⟨lw_p46, List.forall_mem_cons.mpr ⟨lw_p47, fun _ h => absurd h List.not_mem_nil⟩⟩⟩⟩⟩⟩⟩⟩⟩⟩⟩⟩⟩⟩⟩⟩
theorem lw_p48 : lw_okq (⟨"PrimeBlocks", "isZeroOffRegular", "([J)Z"⟩, 8) := ⟨⟨by decide +kernel, by decide +kernel⟩, List.mem_of_getElem? (i := 16) (by decide +kernel), List.mem_of_getElem? (i := 871) (by decide +kernel), List.mem_of_getElem? (i := 872) (by decide +kernel)⟩
theorem lw_p49 : lw_okq (⟨"PrimeBlocks", "isWhole", "([JZZ)Z"⟩, 8) := ⟨⟨by decide +kernel, by decide +kernel⟩, List.mem_of_getElem? (i := 16) (by decide +kernel), List.mem_of_getElem? (i := 875) (by decide +kernel), List.mem_of_getElem? (i := 876) (by decide +kernel)⟩
theorem lw_p50 : lw_okq (⟨"PrimeBlocks", "isWholeTimes", "(J)Z"⟩, 8) := ⟨⟨by decide +kernel, by decide +kernel⟩, List.mem_of_getElem? (i := 16) (by decide +kernel), List.mem_of_getElem? (i := 879) (by decide +kernel), List.mem_of_getElem? (i := 880) (by decide +kernel)⟩
theorem lw_p51 : lw_okq (⟨"PrimeBlocks", "addTimes", "(J[I)V"⟩, 8) := ⟨⟨by decide +kernel, by decide +kernel⟩, List.mem_of_getElem? (i := 16) (by decide +kernel), List.mem_of_getElem? (i := 887) (by decide +kernel), List.mem_of_getElem? (i := 888) (by decide +kernel)⟩
theorem lw_p52 : lw_okq (⟨"PrimeBlocks", "slotsInUse", "()I"⟩, 8) := ⟨⟨by decide +kernel, by decide +kernel⟩, List.mem_of_getElem? (i := 16) (by decide +kernel), List.mem_of_getElem? (i := 895) (by decide +kernel), List.mem_of_getElem? (i := 896) (by decide +kernel)⟩
theorem lw_p53 : lw_okq (⟨"PrimeBlocksModel", "lays", "(II)V"⟩, 63) := ⟨⟨by decide +kernel, by decide +kernel⟩, List.mem_of_getElem? (i := 903) (by decide +kernel), List.mem_of_getElem? (i := 910) (by decide +kernel), List.mem_of_getElem? (i := 911) (by decide +kernel)⟩
theorem lw_p54 : lw_okq (⟨"PrimeBlocksModel", "grows", "(III)V"⟩, 63) := ⟨⟨by decide +kernel, by decide +kernel⟩, List.mem_of_getElem? (i := 903) (by decide +kernel), List.mem_of_getElem? (i := 914) (by decide +kernel), List.mem_of_getElem? (i := 915) (by decide +kernel)⟩
theorem lw_p55 : lw_okq (⟨"PrimeBlocksModel", "classes", "()V"⟩, 63) := ⟨⟨by decide +kernel, by decide +kernel⟩, List.mem_of_getElem? (i := 903) (by decide +kernel), List.mem_of_getElem? (i := 919) (by decide +kernel), List.mem_of_getElem? (i := 920) (by decide +kernel)⟩
theorem lw_p56 : lw_okq (⟨"PrimeBlocksModel", "partOf", "(II)I"⟩, 63) := ⟨⟨by decide +kernel, by decide +kernel⟩, List.mem_of_getElem? (i := 903) (by decide +kernel), List.mem_of_getElem? (i := 923) (by decide +kernel), List.mem_of_getElem? (i := 924) (by decide +kernel)⟩
theorem lw_p57 : lw_okq (⟨"PrimeBlocksModel", "cores", "()V"⟩, 63) := ⟨⟨by decide +kernel, by decide +kernel⟩, List.mem_of_getElem? (i := 903) (by decide +kernel), List.mem_of_getElem? (i := 934) (by decide +kernel), List.mem_of_getElem? (i := 935) (by decide +kernel)⟩
theorem lw_p58 : lw_okq (⟨"PrimeBlocksModel", "beadsOf", "(I)I"⟩, 63) := ⟨⟨by decide +kernel, by decide +kernel⟩, List.mem_of_getElem? (i := 903) (by decide +kernel), List.mem_of_getElem? (i := 938) (by decide +kernel), List.mem_of_getElem? (i := 939) (by decide +kernel)⟩
theorem lw_p59 : lw_okq (⟨"PrimeBlocksModel", "charOf", "(III)I"⟩, 63) := ⟨⟨by decide +kernel, by decide +kernel⟩, List.mem_of_getElem? (i := 903) (by decide +kernel), List.mem_of_getElem? (i := 942) (by decide +kernel), List.mem_of_getElem? (i := 943) (by decide +kernel)⟩
theorem lw_p60 : lw_okq (⟨"PrimeBlocksModel", "fills", "(II)V"⟩, 63) := ⟨⟨by decide +kernel, by decide +kernel⟩, List.mem_of_getElem? (i := 903) (by decide +kernel), List.mem_of_getElem? (i := 949) (by decide +kernel), List.mem_of_getElem? (i := 950) (by decide +kernel)⟩
theorem lw_p61 : lw_okq (⟨"PrimeBlocksModel", "rowOf", "(I)I"⟩, 63) := ⟨⟨by decide +kernel, by decide +kernel⟩, List.mem_of_getElem? (i := 903) (by decide +kernel), List.mem_of_getElem? (i := 953) (by decide +kernel), List.mem_of_getElem? (i := 954) (by decide +kernel)⟩
theorem lw_p62 : lw_okq (⟨"PrimeBlocksModel", "cellAt", "(II)I"⟩, 63) := ⟨⟨by decide +kernel, by decide +kernel⟩, List.mem_of_getElem? (i := 903) (by decide +kernel), List.mem_of_getElem? (i := 957) (by decide +kernel), List.mem_of_getElem? (i := 958) (by decide +kernel)⟩
theorem lw_p63 : lw_okq (⟨"PrimeBlocksModel", "forms", "(I)V"⟩, 63) := ⟨⟨by decide +kernel, by decide +kernel⟩, List.mem_of_getElem? (i := 903) (by decide +kernel), List.mem_of_getElem? (i := 961) (by decide +kernel), List.mem_of_getElem? (i := 962) (by decide +kernel)⟩
def lw_privs_4 : List (MethodName × Nat) := [(⟨"PrimeBlocks", "isZeroOffRegular", "([J)Z"⟩, 8), (⟨"PrimeBlocks", "isWhole", "([JZZ)Z"⟩, 8), (⟨"PrimeBlocks", "isWholeTimes", "(J)Z"⟩, 8), (⟨"PrimeBlocks", "addTimes", "(J[I)V"⟩, 8), (⟨"PrimeBlocks", "slotsInUse", "()I"⟩, 8), (⟨"PrimeBlocksModel", "lays", "(II)V"⟩, 63), (⟨"PrimeBlocksModel", "grows", "(III)V"⟩, 63), (⟨"PrimeBlocksModel", "classes", "()V"⟩, 63), (⟨"PrimeBlocksModel", "partOf", "(II)I"⟩, 63), (⟨"PrimeBlocksModel", "cores", "()V"⟩, 63), (⟨"PrimeBlocksModel", "beadsOf", "(I)I"⟩, 63), (⟨"PrimeBlocksModel", "charOf", "(III)I"⟩, 63), (⟨"PrimeBlocksModel", "fills", "(II)V"⟩, 63), (⟨"PrimeBlocksModel", "rowOf", "(I)I"⟩, 63), (⟨"PrimeBlocksModel", "cellAt", "(II)I"⟩, 63), (⟨"PrimeBlocksModel", "forms", "(I)V"⟩, 63)]
theorem lw_r4 : ∀ q ∈ lw_privs_4, lw_okq q := List.forall_mem_cons.mpr ⟨lw_p48, List.forall_mem_cons.mpr ⟨lw_p49, List.forall_mem_cons.mpr ⟨lw_p50, List.forall_mem_cons.mpr ⟨lw_p51, List.forall_mem_cons.mpr ⟨lw_p52, List.forall_mem_cons.mpr ⟨lw_p53, List.forall_mem_cons.mpr ⟨lw_p54, List.forall_mem_cons.mpr ⟨lw_p55, List.forall_mem_cons.mpr ⟨lw_p56, List.forall_mem_cons.mpr ⟨lw_p57, List.forall_mem_cons.mpr ⟨lw_p58, List.forall_mem_cons.mpr ⟨lw_p59, List.forall_mem_cons.mpr ⟨lw_p60, List.forall_mem_cons.mpr ⟨lw_p61, List.forall_mem_cons.mpr ⟨lw_p62, List.forall_mem_cons.mpr ⟨lw_p63, fun _ h => absurd h List.not_mem_nil⟩⟩⟩⟩⟩⟩⟩⟩⟩⟩⟩⟩⟩⟩⟩⟩
theorem lw_p64 : lw_okq (⟨"PrimeBlocksModel", "begins", "(I)V"⟩, 63) := ⟨⟨by decide +kernel, by decide +kernel⟩, List.mem_of_getElem? (i := 903) (by decide +kernel), List.mem_of_getElem? (i := 965) (by decide +kernel), List.mem_of_getElem? (i := 966) (by decide +kernel)⟩
theorem lw_p65 : lw_okq (⟨"PrimeBlocksModel", "sumsOf", "([I)V"⟩, 63) := ⟨⟨by decide +kernel, by decide +kernel⟩, List.mem_of_getElem? (i := 903) (by decide +kernel), List.mem_of_getElem? (i := 969) (by decide +kernel), List.mem_of_getElem? (i := 970) (by decide +kernel)⟩
theorem lw_p66 : lw_okq (⟨"PrimeBlocksModel", "spreads", "([IIIII)V"⟩, 63) := ⟨⟨by decide +kernel, by decide +kernel⟩, List.mem_of_getElem? (i := 903) (by decide +kernel), List.mem_of_getElem? (i := 973) (by decide +kernel), List.mem_of_getElem? (i := 974) (by decide +kernel)⟩
theorem lw_p67 : lw_okq (⟨"PrimeBlocksModel", "placeNow", "()I"⟩, 63) := ⟨⟨by decide +kernel, by decide +kernel⟩, List.mem_of_getElem? (i := 903) (by decide +kernel), List.mem_of_getElem? (i := 977) (by decide +kernel), List.mem_of_getElem? (i := 978) (by decide +kernel)⟩
theorem lw_p68 : lw_okq (⟨"PrimeBlocksModel", "swaps", "(II)V"⟩, 63) := ⟨⟨by decide +kernel, by decide +kernel⟩, List.mem_of_getElem? (i := 903) (by decide +kernel), List.mem_of_getElem? (i := 981) (by decide +kernel), List.mem_of_getElem? (i := 982) (by decide +kernel)⟩
theorem lw_p69 : lw_okq (⟨"PrimeBlocksModel", "form", "([II[II)I"⟩, 63) := ⟨⟨by decide +kernel, by decide +kernel⟩, List.mem_of_getElem? (i := 903) (by decide +kernel), List.mem_of_getElem? (i := 985) (by decide +kernel), List.mem_of_getElem? (i := 986) (by decide +kernel)⟩
theorem lw_p70 : lw_okq (⟨"PrimeBlocksModel", "rankOf", "(I)I"⟩, 63) := ⟨⟨by decide +kernel, by decide +kernel⟩, List.mem_of_getElem? (i := 903) (by decide +kernel), List.mem_of_getElem? (i := 989) (by decide +kernel), List.mem_of_getElem? (i := 990) (by decide +kernel)⟩
theorem lw_p71 : lw_okq (⟨"PrimeBlocksModel", "modularOf", "(I)I"⟩, 63) := ⟨⟨by decide +kernel, by decide +kernel⟩, List.mem_of_getElem? (i := 903) (by decide +kernel), List.mem_of_getElem? (i := 996) (by decide +kernel), List.mem_of_getElem? (i := 997) (by decide +kernel)⟩
theorem lw_p72 : lw_okq (⟨"PrimeBlocksModel", "fixed", "(II)I"⟩, 63) := ⟨⟨by decide +kernel, by decide +kernel⟩, List.mem_of_getElem? (i := 903) (by decide +kernel), List.mem_of_getElem? (i := 1003) (by decide +kernel), List.mem_of_getElem? (i := 1004) (by decide +kernel)⟩
theorem lw_p73 : lw_okq (⟨"PrimeBlocksModel", "moves", "(II)V"⟩, 63) := ⟨⟨by decide +kernel, by decide +kernel⟩, List.mem_of_getElem? (i := 903) (by decide +kernel), List.mem_of_getElem? (i := 1007) (by decide +kernel), List.mem_of_getElem? (i := 1008) (by decide +kernel)⟩
theorem lw_p74 : lw_okq (⟨"PrimeBlocksModel", "decomposes", "()V"⟩, 63) := ⟨⟨by decide +kernel, by decide +kernel⟩, List.mem_of_getElem? (i := 903) (by decide +kernel), List.mem_of_getElem? (i := 1014) (by decide +kernel), List.mem_of_getElem? (i := 1015) (by decide +kernel)⟩
theorem lw_p75 : lw_okq (⟨"PrimeBlocksModel", "isPart", "(I)Z"⟩, 63) := ⟨⟨by decide +kernel, by decide +kernel⟩, List.mem_of_getElem? (i := 903) (by decide +kernel), List.mem_of_getElem? (i := 1221) (by decide +kernel), List.mem_of_getElem? (i := 1222) (by decide +kernel)⟩
theorem lw_p76 : lw_okq (⟨"PrimeBlocksModel", "turned", "(I)I"⟩, 63) := ⟨⟨by decide +kernel, by decide +kernel⟩, List.mem_of_getElem? (i := 903) (by decide +kernel), List.mem_of_getElem? (i := 1229) (by decide +kernel), List.mem_of_getElem? (i := 1230) (by decide +kernel)⟩
theorem lw_p77 : lw_okq (⟨"PrimeBlocksModel", "isTurned", "(II)Z"⟩, 63) := ⟨⟨by decide +kernel, by decide +kernel⟩, List.mem_of_getElem? (i := 903) (by decide +kernel), List.mem_of_getElem? (i := 1233) (by decide +kernel), List.mem_of_getElem? (i := 1234) (by decide +kernel)⟩
theorem lw_p78 : lw_okq (⟨"PrimeBlocksModel", "isRegularOne", "(I)Z"⟩, 63) := ⟨⟨by decide +kernel, by decide +kernel⟩, List.mem_of_getElem? (i := 903) (by decide +kernel), List.mem_of_getElem? (i := 1269) (by decide +kernel), List.mem_of_getElem? (i := 1270) (by decide +kernel)⟩
theorem lw_p79 : lw_okq (⟨"PrimeBlocksModel", "cartanOf", "(II)I"⟩, 63) := ⟨⟨by decide +kernel, by decide +kernel⟩, List.mem_of_getElem? (i := 903) (by decide +kernel), List.mem_of_getElem? (i := 1277) (by decide +kernel), List.mem_of_getElem? (i := 1278) (by decide +kernel)⟩
def lw_privs_5 : List (MethodName × Nat) := [(⟨"PrimeBlocksModel", "begins", "(I)V"⟩, 63), (⟨"PrimeBlocksModel", "sumsOf", "([I)V"⟩, 63), (⟨"PrimeBlocksModel", "spreads", "([IIIII)V"⟩, 63), (⟨"PrimeBlocksModel", "placeNow", "()I"⟩, 63), (⟨"PrimeBlocksModel", "swaps", "(II)V"⟩, 63), (⟨"PrimeBlocksModel", "form", "([II[II)I"⟩, 63), (⟨"PrimeBlocksModel", "rankOf", "(I)I"⟩, 63), (⟨"PrimeBlocksModel", "modularOf", "(I)I"⟩, 63), (⟨"PrimeBlocksModel", "fixed", "(II)I"⟩, 63), (⟨"PrimeBlocksModel", "moves", "(II)V"⟩, 63), (⟨"PrimeBlocksModel", "decomposes", "()V"⟩, 63), (⟨"PrimeBlocksModel", "isPart", "(I)Z"⟩, 63), (⟨"PrimeBlocksModel", "turned", "(I)I"⟩, 63), (⟨"PrimeBlocksModel", "isTurned", "(II)Z"⟩, 63), (⟨"PrimeBlocksModel", "isRegularOne", "(I)Z"⟩, 63), (⟨"PrimeBlocksModel", "cartanOf", "(II)I"⟩, 63)]
theorem lw_r5 : ∀ q ∈ lw_privs_5, lw_okq q := List.forall_mem_cons.mpr ⟨lw_p64, List.forall_mem_cons.mpr ⟨lw_p65, List.forall_mem_cons.mpr ⟨lw_p66, List.forall_mem_cons.mpr ⟨lw_p67, List.forall_mem_cons.mpr ⟨lw_p68, List.forall_mem_cons.mpr ⟨lw_p69, List.forall_mem_cons.mpr ⟨lw_p70, List.forall_mem_cons.mpr ⟨lw_p71, List.forall_mem_cons.mpr ⟨lw_p72, List.forall_mem_cons.mpr ⟨lw_p73, List.forall_mem_cons.mpr ⟨lw_p74, List.forall_mem_cons.mpr ⟨lw_p75, List.forall_mem_cons.mpr ⟨lw_p76, List.forall_mem_cons.mpr ⟨lw_p77, List.forall_mem_cons.mpr ⟨lw_p78, List.forall_mem_cons.mpr ⟨lw_p79, fun _ h => absurd h List.not_mem_nil⟩⟩⟩⟩⟩⟩⟩⟩⟩⟩⟩⟩⟩⟩⟩⟩
theorem lw_p80 : lw_okq (⟨"PrimeBlocksModel", "membersOf", "(I)I"⟩, 63) := ⟨⟨by decide +kernel, by decide +kernel⟩, List.mem_of_getElem? (i := 903) (by decide +kernel), List.mem_of_getElem? (i := 1293) (by decide +kernel), List.mem_of_getElem? (i := 1294) (by decide +kernel)⟩
theorem lw_p81 : lw_okq (⟨"PrimeBlocksModel", "defect", "(I)I"⟩, 63) := ⟨⟨by decide +kernel, by decide +kernel⟩, List.mem_of_getElem? (i := 903) (by decide +kernel), List.mem_of_getElem? (i := 1297) (by decide +kernel), List.mem_of_getElem? (i := 1298) (by decide +kernel)⟩
theorem lw_p82 : lw_okq (⟨"PrimeBlocksModel", "determinant", "(I)J"⟩, 63) := ⟨⟨by decide +kernel, by decide +kernel⟩, List.mem_of_getElem? (i := 903) (by decide +kernel), List.mem_of_getElem? (i := 1301) (by decide +kernel), List.mem_of_getElem? (i := 1302) (by decide +kernel)⟩
theorem lw_p83 : lw_okq (⟨"PrimeBlocksModel", "ordinarySum", "(II)J"⟩, 63) := ⟨⟨by decide +kernel, by decide +kernel⟩, List.mem_of_getElem? (i := 903) (by decide +kernel), List.mem_of_getElem? (i := 1318) (by decide +kernel), List.mem_of_getElem? (i := 1319) (by decide +kernel)⟩
theorem lw_p84 : lw_okq (⟨"PrimeBlocksModel", "modularSum", "(II)J"⟩, 63) := ⟨⟨by decide +kernel, by decide +kernel⟩, List.mem_of_getElem? (i := 903) (by decide +kernel), List.mem_of_getElem? (i := 1322) (by decide +kernel), List.mem_of_getElem? (i := 1323) (by decide +kernel)⟩
theorem lw_p85 : lw_okq (⟨"PrimeBlocksModel", "areWhole", "(IZZ)Z"⟩, 63) := ⟨⟨by decide +kernel, by decide +kernel⟩, List.mem_of_getElem? (i := 903) (by decide +kernel), List.mem_of_getElem? (i := 1339) (by decide +kernel), List.mem_of_getElem? (i := 1340) (by decide +kernel)⟩
theorem lw_p86 : lw_okq (⟨"PrimeBlocksModel", "four", "(I)V"⟩, 63) := ⟨⟨by decide +kernel, by decide +kernel⟩, List.mem_of_getElem? (i := 903) (by decide +kernel), List.mem_of_getElem? (i := 1351) (by decide +kernel), List.mem_of_getElem? (i := 1352) (by decide +kernel)⟩
theorem lw_p87 : lw_okq (⟨"PrimeBlocksModel", "readsSum", "()Z"⟩, 63) := ⟨⟨by decide +kernel, by decide +kernel⟩, List.mem_of_getElem? (i := 903) (by decide +kernel), List.mem_of_getElem? (i := 1363) (by decide +kernel), List.mem_of_getElem? (i := 1364) (by decide +kernel)⟩
theorem lw_p88 : lw_okq (⟨"PrimeBlocksModel", "begin", "()V"⟩, 63) := ⟨⟨by decide +kernel, by decide +kernel⟩, List.mem_of_getElem? (i := 903) (by decide +kernel), List.mem_of_getElem? (i := 1367) (by decide +kernel), List.mem_of_getElem? (i := 1368) (by decide +kernel)⟩
theorem lw_p89 : lw_okq (⟨"PrimeBlocksModel", "see", "()I"⟩, 63) := ⟨⟨by decide +kernel, by decide +kernel⟩, List.mem_of_getElem? (i := 903) (by decide +kernel), List.mem_of_getElem? (i := 1371) (by decide +kernel), List.mem_of_getElem? (i := 1372) (by decide +kernel)⟩
theorem lw_p90 : lw_okq (⟨"PrimeBlocksModel", "readsTerm", "()Z"⟩, 63) := ⟨⟨by decide +kernel, by decide +kernel⟩, List.mem_of_getElem? (i := 903) (by decide +kernel), List.mem_of_getElem? (i := 1375) (by decide +kernel), List.mem_of_getElem? (i := 1376) (by decide +kernel)⟩
theorem lw_p91 : lw_okq (⟨"PrimeBlocksModel", "readsFactor", "()Z"⟩, 63) := ⟨⟨by decide +kernel, by decide +kernel⟩, List.mem_of_getElem? (i := 903) (by decide +kernel), List.mem_of_getElem? (i := 1379) (by decide +kernel), List.mem_of_getElem? (i := 1380) (by decide +kernel)⟩
theorem lw_p92 : lw_okq (⟨"PrimeBlocksModel", "readsInner", "()Z"⟩, 63) := ⟨⟨by decide +kernel, by decide +kernel⟩, List.mem_of_getElem? (i := 903) (by decide +kernel), List.mem_of_getElem? (i := 1383) (by decide +kernel), List.mem_of_getElem? (i := 1384) (by decide +kernel)⟩
theorem lw_p93 : lw_okq (⟨"PrimeBlocksModel", "fails", "(II)Z"⟩, 63) := ⟨⟨by decide +kernel, by decide +kernel⟩, List.mem_of_getElem? (i := 903) (by decide +kernel), List.mem_of_getElem? (i := 1387) (by decide +kernel), List.mem_of_getElem? (i := 1388) (by decide +kernel)⟩
theorem lw_p94 : lw_okq (⟨"PrimeBlocksModel", "readsNamed", "(I)Z"⟩, 63) := ⟨⟨by decide +kernel, by decide +kernel⟩, List.mem_of_getElem? (i := 903) (by decide +kernel), List.mem_of_getElem? (i := 1391) (by decide +kernel), List.mem_of_getElem? (i := 1392) (by decide +kernel)⟩
theorem lw_p95 : lw_okq (⟨"PrimeBlocksModel", "readsPart", "()I"⟩, 63) := ⟨⟨by decide +kernel, by decide +kernel⟩, List.mem_of_getElem? (i := 903) (by decide +kernel), List.mem_of_getElem? (i := 1395) (by decide +kernel), List.mem_of_getElem? (i := 1396) (by decide +kernel)⟩
def lw_privs_6 : List (MethodName × Nat) := [(⟨"PrimeBlocksModel", "membersOf", "(I)I"⟩, 63), (⟨"PrimeBlocksModel", "defect", "(I)I"⟩, 63), (⟨"PrimeBlocksModel", "determinant", "(I)J"⟩, 63), (⟨"PrimeBlocksModel", "ordinarySum", "(II)J"⟩, 63), (⟨"PrimeBlocksModel", "modularSum", "(II)J"⟩, 63), (⟨"PrimeBlocksModel", "areWhole", "(IZZ)Z"⟩, 63), (⟨"PrimeBlocksModel", "four", "(I)V"⟩, 63), (⟨"PrimeBlocksModel", "readsSum", "()Z"⟩, 63), (⟨"PrimeBlocksModel", "begin", "()V"⟩, 63), (⟨"PrimeBlocksModel", "see", "()I"⟩, 63), (⟨"PrimeBlocksModel", "readsTerm", "()Z"⟩, 63), (⟨"PrimeBlocksModel", "readsFactor", "()Z"⟩, 63), (⟨"PrimeBlocksModel", "readsInner", "()Z"⟩, 63), (⟨"PrimeBlocksModel", "fails", "(II)Z"⟩, 63), (⟨"PrimeBlocksModel", "readsNamed", "(I)Z"⟩, 63), (⟨"PrimeBlocksModel", "readsPart", "()I"⟩, 63)]
theorem lw_r6 : ∀ q ∈ lw_privs_6, lw_okq q := List.forall_mem_cons.mpr ⟨lw_p80, List.forall_mem_cons.mpr ⟨lw_p81, List.forall_mem_cons.mpr ⟨lw_p82, List.forall_mem_cons.mpr ⟨lw_p83, List.forall_mem_cons.mpr ⟨lw_p84, List.forall_mem_cons.mpr ⟨lw_p85, List.forall_mem_cons.mpr ⟨lw_p86, List.forall_mem_cons.mpr ⟨lw_p87, List.forall_mem_cons.mpr ⟨lw_p88, List.forall_mem_cons.mpr ⟨lw_p89, List.forall_mem_cons.mpr ⟨lw_p90, List.forall_mem_cons.mpr ⟨lw_p91, List.forall_mem_cons.mpr ⟨lw_p92, List.forall_mem_cons.mpr ⟨lw_p93, List.forall_mem_cons.mpr ⟨lw_p94, List.forall_mem_cons.mpr ⟨lw_p95, fun _ h => absurd h List.not_mem_nil⟩⟩⟩⟩⟩⟩⟩⟩⟩⟩⟩⟩⟩⟩⟩⟩
theorem lw_p96 : lw_okq (⟨"PrimeBlocksModel", "readsNumber", "()Z"⟩, 63) := ⟨⟨by decide +kernel, by decide +kernel⟩, List.mem_of_getElem? (i := 903) (by decide +kernel), List.mem_of_getElem? (i := 1399) (by decide +kernel), List.mem_of_getElem? (i := 1400) (by decide +kernel)⟩
theorem lw_p97 : lw_okq (⟨"PrimeBlocksModel", "isListed", "(I)Z"⟩, 63) := ⟨⟨by decide +kernel, by decide +kernel⟩, List.mem_of_getElem? (i := 903) (by decide +kernel), List.mem_of_getElem? (i := 1405) (by decide +kernel), List.mem_of_getElem? (i := 1406) (by decide +kernel)⟩
theorem lw_p98 : lw_okq (⟨"PrimeBlocksModel", "fillings", "(III)I"⟩, 63) := ⟨⟨by decide +kernel, by decide +kernel⟩, List.mem_of_getElem? (i := 903) (by decide +kernel), List.mem_of_getElem? (i := 1409) (by decide +kernel), List.mem_of_getElem? (i := 1410) (by decide +kernel)⟩
theorem lw_p99 : lw_okq (⟨"PrimeBlocksModel", "readsSlot", "()Z"⟩, 63) := ⟨⟨by decide +kernel, by decide +kernel⟩, List.mem_of_getElem? (i := 903) (by decide +kernel), List.mem_of_getElem? (i := 1413) (by decide +kernel), List.mem_of_getElem? (i := 1414) (by decide +kernel)⟩
theorem lw_p100 : lw_okq (⟨"PrimeBlocksModel", "areNear", "([J)Z"⟩, 63) := ⟨⟨by decide +kernel, by decide +kernel⟩, List.mem_of_getElem? (i := 903) (by decide +kernel), List.mem_of_getElem? (i := 1419) (by decide +kernel), List.mem_of_getElem? (i := 1420) (by decide +kernel)⟩
def lw_privs_7 : List (MethodName × Nat) := [(⟨"PrimeBlocksModel", "readsNumber", "()Z"⟩, 63), (⟨"PrimeBlocksModel", "isListed", "(I)Z"⟩, 63), (⟨"PrimeBlocksModel", "fillings", "(III)I"⟩, 63), (⟨"PrimeBlocksModel", "readsSlot", "()Z"⟩, 63), (⟨"PrimeBlocksModel", "areNear", "([J)Z"⟩, 63)]
theorem lw_r7 : ∀ q ∈ lw_privs_7, lw_okq q := List.forall_mem_cons.mpr ⟨lw_p96, List.forall_mem_cons.mpr ⟨lw_p97, List.forall_mem_cons.mpr ⟨lw_p98, List.forall_mem_cons.mpr ⟨lw_p99, List.forall_mem_cons.mpr ⟨lw_p100, fun _ h => absurd h List.not_mem_nil⟩⟩⟩⟩⟩
def lw_privs : List (MethodName × Nat) := lw_privs_1 ++ (lw_privs_2 ++ (lw_privs_3 ++ (lw_privs_4 ++ (lw_privs_5 ++ (lw_privs_6 ++ (lw_privs_7))))))
def lw_tbl : List Cond := k2_sels lw_privs ++ tables_1
theorem lw_privs_ok : ∀ q ∈ lw_privs, lw_okq q := by
  show ∀ q ∈ lw_privs_1 ++ (lw_privs_2 ++ (lw_privs_3 ++ (lw_privs_4 ++ (lw_privs_5 ++ (lw_privs_6 ++ (lw_privs_7)))))), lw_okq q
  exact List.forall_mem_append.mpr ⟨lw_r1, List.forall_mem_append.mpr ⟨lw_r2, List.forall_mem_append.mpr ⟨lw_r3, List.forall_mem_append.mpr ⟨lw_r4, List.forall_mem_append.mpr ⟨lw_r5, List.forall_mem_append.mpr ⟨lw_r6, lw_r7⟩⟩⟩⟩⟩⟩
end
section
def RX0 : String := "PrimeBlocks$Blocks"
def TX0 : u_T := fun k => match k with
  | 0 => ("PrimeBlocks$Blocks", "weights", "[I", true)
  | 1 => ("PrimeBlocks$Blocks", "cores", "[[I", true)
  | 2 => ("PrimeBlocks$Blocks", "blockOf", "[I", true)
  | 3 => ("PrimeBlocks$Blocks", "count", "I", false)
  | 4 => ("PrimeBlocks$Blocks", "least", "[I", true)
  | 5 => ("PrimeBlocks$Blocks", "members", "[I", true)
  | 6 => ("PrimeBlocks$Blocks", "regularMembers", "[I", true)
  | _ => ("PrimeBlocks$Blocks", "defects", "[I", true)
def tyX0 : Nat → FieldType := fun k => match k with
  | 0 => .array .int
  | 1 => .array (.array .int)
  | 2 => .array .int
  | 3 => .int
  | 4 => .array .int
  | 5 => .array .int
  | 6 => .array .int
  | _ => .array .int
theorem nmX0 : ∀ a, a < 8 → ∀ b, b < 8 → a ≠ b → (TX0 a).2.1 ≠ (TX0 b).2.1 := by decide +kernel
theorem tyX0_ok : ∀ k, k < 8 → parseFieldDescriptor (TX0 k).2.2.1 = some (tyX0 k) := by decide +kernel
abbrev cX0_init : ByteArray := prog_2_method_1_code
def yX0_init : MethodName := ⟨RX0, "<init>", "(LPrimeBlocks$Things;I[I)V"⟩
abbrev cX0_withoutDefect : ByteArray := prog_2_method_2_code
def yX0_withoutDefect : MethodName := ⟨RX0, "withoutDefect", "()I"⟩
abbrev cX0_slide : ByteArray := prog_2_method_3_code
def yX0_slide : MethodName := ⟨RX0, "slide", "([II[Z)I"⟩
abbrev cX0_readCore : ByteArray := prog_2_method_4_code
def yX0_readCore : MethodName := ⟨RX0, "readCore", "([ZI[I)V"⟩
abbrev cX0_join : ByteArray := prog_2_method_5_code
def yX0_join : MethodName := ⟨RX0, "join", "(IIZ)V"⟩
abbrev cX0_isSameCore : ByteArray := prog_2_method_6_code
def yX0_isSameCore : MethodName := ⟨RX0, "isSameCore", "([I[I)Z"⟩
abbrev cX0_powerInFactorial : ByteArray := prog_2_method_7_code
def yX0_powerInFactorial : MethodName := ⟨RX0, "powerInFactorial", "(II)I"⟩
def RX1 : String := "PrimeBlocks$Fault"
def TX1 : u_T := fun k => match k with
  | 0 => ("PrimeBlocks$Fault", "number", "I", false)
  | 1 => ("PrimeBlocks$Fault", "place", "I", false)
  | 2 => ("PrimeBlocks$Fault", "within", "[I", true)
  | _ => ("PrimeBlocks$Fault", "depth", "I", false)
def tyX1 : Nat → FieldType := fun k => match k with
  | 0 => .int
  | 1 => .int
  | 2 => .array .int
  | _ => .int
theorem nmX1 : ∀ a, a < 4 → ∀ b, b < 4 → a ≠ b → (TX1 a).2.1 ≠ (TX1 b).2.1 := by decide +kernel
theorem tyX1_ok : ∀ k, k < 4 → parseFieldDescriptor (TX1 k).2.2.1 = some (tyX1 k) := by decide +kernel
abbrev cX1_init : ByteArray := prog_3_method_1_code
def yX1_init : MethodName := ⟨RX1, "<init>", "()V"⟩
abbrev cX1_clear : ByteArray := prog_3_method_2_code
def yX1_clear : MethodName := ⟨RX1, "clear", "()V"⟩
abbrev cX1_tell : ByteArray := prog_3_method_3_code
def yX1_tell : MethodName := ⟨RX1, "tell", "(II)V"⟩
abbrev cX1_addWithin : ByteArray := prog_3_method_4_code
def yX1_addWithin : MethodName := ⟨RX1, "addWithin", "(I)V"⟩
def RX2 : String := "PrimeBlocks$Reader"
def TX2 : u_T := fun k => match k with
  | 0 => ("PrimeBlocks$Reader", "fault", "LPrimeBlocks$Fault;", true)
  | 1 => ("PrimeBlocks$Reader", "sums", "[[J", true)
  | 2 => ("PrimeBlocks$Reader", "terms", "[[J", true)
  | 3 => ("PrimeBlocks$Reader", "factors", "[[J", true)
  | 4 => ("PrimeBlocks$Reader", "sumBegins", "[I", true)
  | 5 => ("PrimeBlocks$Reader", "termBegins", "[I", true)
  | 6 => ("PrimeBlocks$Reader", "factorBegins", "[I", true)
  | 7 => ("PrimeBlocks$Reader", "listed", "[I", true)
  | 8 => ("PrimeBlocks$Reader", "listLength", "I", false)
  | 9 => ("PrimeBlocks$Reader", "listBegin", "I", false)
  | 10 => ("PrimeBlocks$Reader", "tape", "LPrimeBlocks$Tape;", true)
  | 11 => ("PrimeBlocks$Reader", "slots", "[[J", true)
  | 12 => ("PrimeBlocks$Reader", "things", "LPrimeBlocks$Things;", false)
  | 13 => ("PrimeBlocks$Reader", "split", "LPrimeBlocks$Split;", false)
  | _ => ("PrimeBlocks$Reader", "at", "I", false)
def tyX2 : Nat → FieldType := fun k => match k with
  | 0 => .object "PrimeBlocks$Fault"
  | 1 => .array (.array .long)
  | 2 => .array (.array .long)
  | 3 => .array (.array .long)
  | 4 => .array .int
  | 5 => .array .int
  | 6 => .array .int
  | 7 => .array .int
  | 8 => .int
  | 9 => .int
  | 10 => .object "PrimeBlocks$Tape"
  | 11 => .array (.array .long)
  | 12 => .object "PrimeBlocks$Things"
  | 13 => .object "PrimeBlocks$Split"
  | _ => .int
theorem nmX2 : ∀ a, a < 15 → ∀ b, b < 15 → a ≠ b → (TX2 a).2.1 ≠ (TX2 b).2.1 := by decide +kernel
theorem tyX2_ok : ∀ k, k < 15 → parseFieldDescriptor (TX2 k).2.2.1 = some (tyX2 k) := by decide +kernel
abbrev cX2_init : ByteArray := prog_4_method_1_code
def yX2_init : MethodName := ⟨RX2, "<init>", "(LPrimeBlocks$Tape;[[JLPrimeBlocks$Things;LPrimeBlocks$Split;)V"⟩
abbrev cX2_turnTo : ByteArray := prog_4_method_2_code
def yX2_turnTo : MethodName := ⟨RX2, "turnTo", "(LPrimeBlocks$Things;LPrimeBlocks$Split;)V"⟩
abbrev cX2_read : ByteArray := prog_4_method_3_code
def yX2_read : MethodName := ⟨RX2, "read", "()Z"⟩
abbrev cX2_next : ByteArray := prog_4_method_4_code
def yX2_next : MethodName := ⟨RX2, "next", "()I"⟩
abbrev cX2_refuse : ByteArray := prog_4_method_5_code
def yX2_refuse : MethodName := ⟨RX2, "refuse", "(I)Z"⟩
abbrev cX2_fail : ByteArray := prog_4_method_6_code
def yX2_fail : MethodName := ⟨RX2, "fail", "(IIII)Z"⟩
abbrev cX2_readSum : ByteArray := prog_4_method_7_code
def yX2_readSum : MethodName := ⟨RX2, "readSum", "(I)Z"⟩
abbrev cX2_readTerm : ByteArray := prog_4_method_8_code
def yX2_readTerm : MethodName := ⟨RX2, "readTerm", "(I)Z"⟩
abbrev cX2_readFactor : ByteArray := prog_4_method_9_code
def yX2_readFactor : MethodName := ⟨RX2, "readFactor", "(I)Z"⟩
abbrev cX2_readConstant : ByteArray := prog_4_method_10_code
def yX2_readConstant : MethodName := ⟨RX2, "readConstant", "(I)Z"⟩
abbrev cX2_readSlot : ByteArray := prog_4_method_11_code
def yX2_readSlot : MethodName := ⟨RX2, "readSlot", "(I)Z"⟩
abbrev cX2_readInBrackets : ByteArray := prog_4_method_12_code
def yX2_readInBrackets : MethodName := ⟨RX2, "readInBrackets", "(I)Z"⟩
abbrev cX2_readList : ByteArray := prog_4_method_13_code
def yX2_readList : MethodName := ⟨RX2, "readList", "()Z"⟩
abbrev cX2_takeCharacter : ByteArray := prog_4_method_14_code
def yX2_takeCharacter : MethodName := ⟨RX2, "takeCharacter", "(II)Z"⟩
abbrev cX2_rowFor : ByteArray := prog_4_method_15_code
def yX2_rowFor : MethodName := ⟨RX2, "rowFor", "(II)[I"⟩
abbrev cX2_readNumber : ByteArray := prog_4_method_16_code
def yX2_readNumber : MethodName := ⟨RX2, "readNumber", "()I"⟩
abbrev cX2_isDigit : ByteArray := prog_4_method_17_code
def yX2_isDigit : MethodName := ⟨RX2, "isDigit", "(I)Z"⟩
abbrev cX2_copy : ByteArray := prog_4_method_18_code
def yX2_copy : MethodName := ⟨RX2, "copy", "([I[J)V"⟩
abbrev cX2_add : ByteArray := prog_4_method_19_code
def yX2_add : MethodName := ⟨RX2, "add", "([JZ[J)Z"⟩
abbrev cX2_multiply : ByteArray := prog_4_method_20_code
def yX2_multiply : MethodName := ⟨RX2, "multiply", "([J[J)Z"⟩
def RX3 : String := "PrimeBlocks$Residues"
def TX3 : u_T := fun k => match k with
  | 0 => ("PrimeBlocks$Residues", "prime", "I", true)
  | _ => ("PrimeBlocks$Residues", "rows", "[[I", true)
def tyX3 : Nat → FieldType := fun k => match k with
  | 0 => .int
  | _ => .array (.array .int)
theorem nmX3 : ∀ a, a < 2 → ∀ b, b < 2 → a ≠ b → (TX3 a).2.1 ≠ (TX3 b).2.1 := by decide +kernel
theorem tyX3_ok : ∀ k, k < 2 → parseFieldDescriptor (TX3 k).2.2.1 = some (tyX3 k) := by decide +kernel
abbrev cX3_init : ByteArray := prog_5_method_1_code
def yX3_init : MethodName := ⟨RX3, "<init>", "(III)V"⟩
abbrev cX3_set : ByteArray := prog_5_method_2_code
def yX3_set : MethodName := ⟨RX3, "set", "(III)V"⟩
abbrev cX3_reduce : ByteArray := prog_5_method_3_code
def yX3_reduce : MethodName := ⟨RX3, "reduce", "(III)I"⟩
abbrev cX3_scale : ByteArray := prog_5_method_4_code
def yX3_scale : MethodName := ⟨RX3, "scale", "([III)V"⟩
abbrev cX3_takeAway : ByteArray := prog_5_method_5_code
def yX3_takeAway : MethodName := ⟨RX3, "takeAway", "([II[II)V"⟩
abbrev cX3_inverse : ByteArray := prog_5_method_6_code
def yX3_inverse : MethodName := ⟨RX3, "inverse", "(I)I"⟩
def RX4 : String := "PrimeBlocks$Shape"
def TX4 : u_T := fun k => match k with
  | 0 => ("PrimeBlocks$Shape", "n", "I", true)
  | 1 => ("PrimeBlocks$Shape", "rows", "I", true)
  | 2 => ("PrimeBlocks$Shape", "parts", "[I", true)
  | 3 => ("PrimeBlocks$Shape", "columns", "[I", true)
  | 4 => ("PrimeBlocks$Shape", "firstCell", "[I", true)
  | 5 => ("PrimeBlocks$Shape", "degree", "I", true)
  | 6 => ("PrimeBlocks$Shape", "tableaux", "[[I", true)
  | 7 => ("PrimeBlocks$Shape", "forms", "[[I", true)
  | 8 => ("PrimeBlocks$Shape", "ways", "I", true)
  | 9 => ("PrimeBlocks$Shape", "rowsByWay", "[I", true)
  | 10 => ("PrimeBlocks$Shape", "signByWay", "[I", true)
  | 11 => ("PrimeBlocks$Shape", "codes", "[[I", true)
  | 12 => ("PrimeBlocks$Shape", "weights", "[I", true)
  | 13 => ("PrimeBlocks$Shape", "made", "I", false)
  | 14 => ("PrimeBlocks$Shape", "chosen", "[I", true)
  | _ => ("PrimeBlocks$Shape", "taken", "[I", true)
def tyX4 : Nat → FieldType := fun k => match k with
  | 0 => .int
  | 1 => .int
  | 2 => .array .int
  | 3 => .array .int
  | 4 => .array .int
  | 5 => .int
  | 6 => .array (.array .int)
  | 7 => .array (.array .int)
  | 8 => .int
  | 9 => .array .int
  | 10 => .array .int
  | 11 => .array (.array .int)
  | 12 => .array .int
  | 13 => .int
  | 14 => .array .int
  | _ => .array .int
theorem nmX4 : ∀ a, a < 16 → ∀ b, b < 16 → a ≠ b → (TX4 a).2.1 ≠ (TX4 b).2.1 := by decide +kernel
theorem tyX4_ok : ∀ k, k < 16 → parseFieldDescriptor (TX4 k).2.2.1 = some (tyX4 k) := by decide +kernel
abbrev cX4_init : ByteArray := prog_6_method_1_code
def yX4_init : MethodName := ⟨RX4, "<init>", "([III)V"⟩
abbrev cX4_hasCell : ByteArray := prog_6_method_2_code
def yX4_hasCell : MethodName := ⟨RX4, "hasCell", "(II)Z"⟩
abbrev cX4_hookAt : ByteArray := prog_6_method_3_code
def yX4_hookAt : MethodName := ⟨RX4, "hookAt", "(II)I"⟩
abbrev cX4_layOut : ByteArray := prog_6_method_4_code
def yX4_layOut : MethodName := ⟨RX4, "layOut", "()V"⟩
abbrev cX4_countTableaux : ByteArray := prog_6_method_5_code
def yX4_countTableaux : MethodName := ⟨RX4, "countTableaux", "()I"⟩
abbrev cX4_countWays : ByteArray := prog_6_method_6_code
def yX4_countWays : MethodName := ⟨RX4, "countWays", "()I"⟩
abbrev cX4_fillTableaux : ByteArray := prog_6_method_7_code
def yX4_fillTableaux : MethodName := ⟨RX4, "fillTableaux", "(II)V"⟩
abbrev cX4_fillWays : ByteArray := prog_6_method_8_code
def yX4_fillWays : MethodName := ⟨RX4, "fillWays", "(III)V"⟩
abbrev cX4_weighNumbers : ByteArray := prog_6_method_9_code
def yX4_weighNumbers : MethodName := ⟨RX4, "weighNumbers", "()V"⟩
abbrev cX4_codeCount : ByteArray := prog_6_method_10_code
def yX4_codeCount : MethodName := ⟨RX4, "codeCount", "()I"⟩
abbrev cX4_codeOf : ByteArray := prog_6_method_11_code
def yX4_codeOf : MethodName := ⟨RX4, "codeOf", "([II[I)I"⟩
abbrev cX4_makeForms : ByteArray := prog_6_method_12_code
def yX4_makeForms : MethodName := ⟨RX4, "makeForms", "([I[I)V"⟩
abbrev cX4_makeMovedForms : ByteArray := prog_6_method_13_code
def yX4_makeMovedForms : MethodName := ⟨RX4, "makeMovedForms", "([I[I[[I)V"⟩
abbrev cX4_formWith : ByteArray := prog_6_method_14_code
def yX4_formWith : MethodName := ⟨RX4, "formWith", "([I[I)I"⟩
def RX5 : String := "PrimeBlocks$Split"
def TX5 : u_T := fun k => match k with
  | 0 => ("PrimeBlocks$Split", "things", "LPrimeBlocks$Things;", true)
  | 1 => ("PrimeBlocks$Split", "prime", "I", true)
  | 2 => ("PrimeBlocks$Split", "regularNumber", "[I", true)
  | 3 => ("PrimeBlocks$Split", "regularCount", "I", false)
  | 4 => ("PrimeBlocks$Split", "regularClass", "[Z", true)
  | 5 => ("PrimeBlocks$Split", "ranks", "[I", true)
  | 6 => ("PrimeBlocks$Split", "modulars", "[[I", true)
  | 7 => ("PrimeBlocks$Split", "decompositions", "[[I", true)
  | 8 => ("PrimeBlocks$Split", "cartans", "[[I", true)
  | 9 => ("PrimeBlocks$Split", "projectives", "[[I", true)
  | 10 => ("PrimeBlocks$Split", "blocks", "LPrimeBlocks$Blocks;", true)
  | _ => ("PrimeBlocks$Split", "determinants", "[I", true)
def tyX5 : Nat → FieldType := fun k => match k with
  | 0 => .object "PrimeBlocks$Things"
  | 1 => .int
  | 2 => .array .int
  | 3 => .int
  | 4 => .array .boolean
  | 5 => .array .int
  | 6 => .array (.array .int)
  | 7 => .array (.array .int)
  | 8 => .array (.array .int)
  | 9 => .array (.array .int)
  | 10 => .object "PrimeBlocks$Blocks"
  | _ => .array .int
theorem nmX5 : ∀ a, a < 12 → ∀ b, b < 12 → a ≠ b → (TX5 a).2.1 ≠ (TX5 b).2.1 := by decide +kernel
theorem tyX5_ok : ∀ k, k < 12 → parseFieldDescriptor (TX5 k).2.2.1 = some (tyX5 k) := by decide +kernel
abbrev cX5_init : ByteArray := prog_7_method_1_code
def yX5_init : MethodName := ⟨RX5, "<init>", "(LPrimeBlocks$Things;I)V"⟩
abbrev cX5_isRegular : ByteArray := prog_7_method_2_code
def yX5_isRegular : MethodName := ⟨RX5, "isRegular", "(I)Z"⟩
abbrev cX5_markRegular : ByteArray := prog_7_method_3_code
def yX5_markRegular : MethodName := ⟨RX5, "markRegular", "()V"⟩
abbrev cX5_makeModulars : ByteArray := prog_7_method_4_code
def yX5_makeModulars : MethodName := ⟨RX5, "makeModulars", "()V"⟩
abbrev cX5_rankOfDifference : ByteArray := prog_7_method_5_code
def yX5_rankOfDifference : MethodName := ⟨RX5, "rankOfDifference", "(LPrimeBlocks$Shape;[[I[[ILPrimeBlocks$Residues;)I"⟩
abbrev cX5_makeFixed : ByteArray := prog_7_method_6_code
def yX5_makeFixed : MethodName := ⟨RX5, "makeFixed", "(I[[ILPrimeBlocks$Residues;[I)V"⟩
abbrev cX5_sumOfRoots : ByteArray := prog_7_method_7_code
def yX5_sumOfRoots : MethodName := ⟨RX5, "sumOfRoots", "(I[I)I"⟩
abbrev cX5_dimensionsOfOrder : ByteArray := prog_7_method_8_code
def yX5_dimensionsOfOrder : MethodName := ⟨RX5, "dimensionsOfOrder", "(II[I)I"⟩
abbrev cX5_makeDecompositions : ByteArray := prog_7_method_9_code
def yX5_makeDecompositions : MethodName := ⟨RX5, "makeDecompositions", "()V"⟩
abbrev cX5_makeCartans : ByteArray := prog_7_method_10_code
def yX5_makeCartans : MethodName := ⟨RX5, "makeCartans", "()V"⟩
abbrev cX5_makeProjectives : ByteArray := prog_7_method_11_code
def yX5_makeProjectives : MethodName := ⟨RX5, "makeProjectives", "()V"⟩
abbrev cX5_makeDeterminants : ByteArray := prog_7_method_12_code
def yX5_makeDeterminants : MethodName := ⟨RX5, "makeDeterminants", "()V"⟩
abbrev cX5_determinant : ByteArray := prog_7_method_13_code
def yX5_determinant : MethodName := ⟨RX5, "determinant", "([[JI)J"⟩
def RX6 : String := "PrimeBlocks$Tape"
def TX6 : u_T := fun k => match k with
  | 0 => ("PrimeBlocks$Tape", "bytes", "[I", true)
  | _ => ("PrimeBlocks$Tape", "length", "I", false)
def tyX6 : Nat → FieldType := fun k => match k with
  | 0 => .array .int
  | _ => .int
theorem nmX6 : ∀ a, a < 2 → ∀ b, b < 2 → a ≠ b → (TX6 a).2.1 ≠ (TX6 b).2.1 := by decide +kernel
theorem tyX6_ok : ∀ k, k < 2 → parseFieldDescriptor (TX6 k).2.2.1 = some (tyX6 k) := by decide +kernel
abbrev cX6_init : ByteArray := prog_8_method_1_code
def yX6_init : MethodName := ⟨RX6, "<init>", "()V"⟩
abbrev cX6_hasRoom : ByteArray := prog_8_method_2_code
def yX6_hasRoom : MethodName := ⟨RX6, "hasRoom", "(I)Z"⟩
abbrev cX6_put : ByteArray := prog_8_method_3_code
def yX6_put : MethodName := ⟨RX6, "put", "(I)V"⟩
def RX7 : String := "PrimeBlocks$Things"
def TX7 : u_T := fun k => match k with
  | 0 => ("PrimeBlocks$Things", "n", "I", true)
  | 1 => ("PrimeBlocks$Things", "count", "I", true)
  | 2 => ("PrimeBlocks$Things", "factorial", "I", true)
  | 3 => ("PrimeBlocks$Things", "shapes", "[LPrimeBlocks$Shape;", true)
  | 4 => ("PrimeBlocks$Things", "turned", "[I", true)
  | 5 => ("PrimeBlocks$Things", "sizes", "[I", true)
  | 6 => ("PrimeBlocks$Things", "orders", "[I", true)
  | 7 => ("PrimeBlocks$Things", "signs", "[I", true)
  | 8 => ("PrimeBlocks$Things", "centralizers", "[I", true)
  | 9 => ("PrimeBlocks$Things", "powers", "[[I", true)
  | 10 => ("PrimeBlocks$Things", "members", "[[I", true)
  | 11 => ("PrimeBlocks$Things", "marks", "[[I", true)
  | 12 => ("PrimeBlocks$Things", "characters", "[[I", true)
  | _ => ("PrimeBlocks$Things", "byCode", "[I", true)
def tyX7 : Nat → FieldType := fun k => match k with
  | 0 => .int
  | 1 => .int
  | 2 => .int
  | 3 => .array (.object "PrimeBlocks$Shape")
  | 4 => .array .int
  | 5 => .array .int
  | 6 => .array .int
  | 7 => .array .int
  | 8 => .array .int
  | 9 => .array (.array .int)
  | 10 => .array (.array .int)
  | 11 => .array (.array .int)
  | 12 => .array (.array .int)
  | _ => .array .int
theorem nmX7 : ∀ a, a < 14 → ∀ b, b < 14 → a ≠ b → (TX7 a).2.1 ≠ (TX7 b).2.1 := by decide +kernel
theorem tyX7_ok : ∀ k, k < 14 → parseFieldDescriptor (TX7 k).2.2.1 = some (tyX7 k) := by decide +kernel
abbrev cX7_init : ByteArray := prog_9_method_1_code
def yX7_init : MethodName := ⟨RX7, "<init>", "(I)V"⟩
abbrev cX7_numberOf : ByteArray := prog_9_method_2_code
def yX7_numberOf : MethodName := ⟨RX7, "numberOf", "([II)I"⟩
abbrev cX7_makeShapes : ByteArray := prog_9_method_3_code
def yX7_makeShapes : MethodName := ⟨RX7, "makeShapes", "()V"⟩
abbrev cX7_stepOn : ByteArray := prog_9_method_4_code
def yX7_stepOn : MethodName := ⟨RX7, "stepOn", "([II)I"⟩
abbrev cX7_describeClass : ByteArray := prog_9_method_5_code
def yX7_describeClass : MethodName := ⟨RX7, "describeClass", "(I)V"⟩
abbrev cX7_leastMultiple : ByteArray := prog_9_method_6_code
def yX7_leastMultiple : MethodName := ⟨RX7, "leastMultiple", "(II)I"⟩
abbrev cX7_makePowers : ByteArray := prog_9_method_7_code
def yX7_makePowers : MethodName := ⟨RX7, "makePowers", "()V"⟩
abbrev cX7_raise : ByteArray := prog_9_method_8_code
def yX7_raise : MethodName := ⟨RX7, "raise", "([II[I)I"⟩
abbrev cX7_makeMarks : ByteArray := prog_9_method_9_code
def yX7_makeMarks : MethodName := ⟨RX7, "makeMarks", "()V"⟩
abbrev cX7_placings : ByteArray := prog_9_method_10_code
def yX7_placings : MethodName := ⟨RX7, "placings", "([II[I)I"⟩
abbrev cX7_makeCharacters : ByteArray := prog_9_method_11_code
def yX7_makeCharacters : MethodName := ⟨RX7, "makeCharacters", "()V"⟩
abbrev cX7_timesIn : ByteArray := prog_9_method_12_code
def yX7_timesIn : MethodName := ⟨RX7, "timesIn", "([I[I)I"⟩
abbrev cX7_countCodes : ByteArray := prog_9_method_13_code
def yX7_countCodes : MethodName := ⟨RX7, "countCodes", "()I"⟩
def RX8 : String := "PrimeBlocks"
def TX8 : u_T := fun k => match k with
  | 0 => ("PrimeBlocks", "thingsByNumber", "[LPrimeBlocks$Things;", true)
  | 1 => ("PrimeBlocks", "splitByGroup", "[LPrimeBlocks$Split;", true)
  | 2 => ("PrimeBlocks", "slots", "[[J", true)
  | 3 => ("PrimeBlocks", "spare", "[J", true)
  | 4 => ("PrimeBlocks", "tape", "LPrimeBlocks$Tape;", true)
  | 5 => ("PrimeBlocks", "reader", "LPrimeBlocks$Reader;", true)
  | 6 => ("PrimeBlocks", "things", "LPrimeBlocks$Things;", false)
  | _ => ("PrimeBlocks", "split", "LPrimeBlocks$Split;", false)
def tyX8 : Nat → FieldType := fun k => match k with
  | 0 => .array (.object "PrimeBlocks$Things")
  | 1 => .array (.object "PrimeBlocks$Split")
  | 2 => .array (.array .long)
  | 3 => .array .long
  | 4 => .object "PrimeBlocks$Tape"
  | 5 => .object "PrimeBlocks$Reader"
  | 6 => .object "PrimeBlocks$Things"
  | _ => .object "PrimeBlocks$Split"
theorem nmX8 : ∀ a, a < 8 → ∀ b, b < 8 → a ≠ b → (TX8 a).2.1 ≠ (TX8 b).2.1 := by decide +kernel
theorem tyX8_ok : ∀ k, k < 8 → parseFieldDescriptor (TX8 k).2.2.1 = some (tyX8 k) := by decide +kernel
abbrev cX8_init : ByteArray := prog_1_method_1_code
def yX8_init : MethodName := ⟨RX8, "<init>", "()V"⟩
abbrev cX8_group : ByteArray := prog_1_method_2_code
def yX8_group : MethodName := ⟨RX8, "group", "(II)I"⟩
abbrev cX8_feed : ByteArray := prog_1_method_3_code
def yX8_feed : MethodName := ⟨RX8, "feed", "(IIIII)I"⟩
abbrev cX8_end : ByteArray := prog_1_method_4_code
def yX8_end : MethodName := ⟨RX8, "end", "(I)Z"⟩
abbrev cX8_text : ByteArray := prog_1_method_5_code
def yX8_text : MethodName := ⟨RX8, "text", "(I)I"⟩
abbrev cX8_fault : ByteArray := prog_1_method_6_code
def yX8_fault : MethodName := ⟨RX8, "fault", "(I)I"⟩
abbrev cX8_partition : ByteArray := prog_1_method_7_code
def yX8_partition : MethodName := ⟨RX8, "partition", "(II)I"⟩
abbrev cX8_of : ByteArray := prog_1_method_8_code
def yX8_of : MethodName := ⟨RX8, "of", "(II)I"⟩
abbrev cX8_core : ByteArray := prog_1_method_9_code
def yX8_core : MethodName := ⟨RX8, "core", "(II)I"⟩
abbrev cX8_hook : ByteArray := prog_1_method_10_code
def yX8_hook : MethodName := ⟨RX8, "hook", "(III)I"⟩
abbrev cX8_classOf : ByteArray := prog_1_method_11_code
def yX8_classOf : MethodName := ⟨RX8, "classOf", "(II)I"⟩
abbrev cX8_character : ByteArray := prog_1_method_12_code
def yX8_character : MethodName := ⟨RX8, "character", "(II)I"⟩
abbrev cX8_modular : ByteArray := prog_1_method_13_code
def yX8_modular : MethodName := ⟨RX8, "modular", "(II)I"⟩
abbrev cX8_projective : ByteArray := prog_1_method_14_code
def yX8_projective : MethodName := ⟨RX8, "projective", "(II)I"⟩
abbrev cX8_decomposition : ByteArray := prog_1_method_15_code
def yX8_decomposition : MethodName := ⟨RX8, "decomposition", "(II)I"⟩
abbrev cX8_cartan : ByteArray := prog_1_method_16_code
def yX8_cartan : MethodName := ⟨RX8, "cartan", "(II)I"⟩
abbrev cX8_tableau : ByteArray := prog_1_method_17_code
def yX8_tableau : MethodName := ⟨RX8, "tableau", "(IIII)I"⟩
abbrev cX8_gram : ByteArray := prog_1_method_18_code
def yX8_gram : MethodName := ⟨RX8, "gram", "(III)I"⟩
abbrev cX8_block : ByteArray := prog_1_method_19_code
def yX8_block : MethodName := ⟨RX8, "block", "(II)I"⟩
abbrev cX8_value : ByteArray := prog_1_method_20_code
def yX8_value : MethodName := ⟨RX8, "value", "(II)J"⟩
abbrev cX8_parts : ByteArray := prog_1_method_21_code
def yX8_parts : MethodName := ⟨RX8, "parts", "(III)J"⟩
abbrev cX8_inner : ByteArray := prog_1_method_22_code
def yX8_inner : MethodName := ⟨RX8, "inner", "(II)J"⟩
abbrev cX8_kind : ByteArray := prog_1_method_23_code
def yX8_kind : MethodName := ⟨RX8, "kind", "(II)I"⟩
abbrev cX8_cut : ByteArray := prog_1_method_24_code
def yX8_cut : MethodName := ⟨RX8, "cut", "(III)I"⟩
abbrev cX8_look : ByteArray := prog_1_method_25_code
def yX8_look : MethodName := ⟨RX8, "look", "(I)I"⟩
abbrev cX8_isPartition : ByteArray := prog_1_method_26_code
def yX8_isPartition : MethodName := ⟨RX8, "isPartition", "(I)Z"⟩
abbrev cX8_isRegularPartition : ByteArray := prog_1_method_27_code
def yX8_isRegularPartition : MethodName := ⟨RX8, "isRegularPartition", "(I)Z"⟩
abbrev cX8_slotsInUse : ByteArray := prog_1_method_28_code
def yX8_slotsInUse : MethodName := ⟨RX8, "slotsInUse", "()I"⟩
abbrev cX8_isZeroOffRegular : ByteArray := prog_1_method_29_code
def yX8_isZeroOffRegular : MethodName := ⟨RX8, "isZeroOffRegular", "([J)Z"⟩
abbrev cX8_isWhole : ByteArray := prog_1_method_30_code
def yX8_isWhole : MethodName := ⟨RX8, "isWhole", "([JZZ)Z"⟩
abbrev cX8_timesFactorial : ByteArray := prog_1_method_31_code
def yX8_timesFactorial : MethodName := ⟨RX8, "timesFactorial", "([JIZ)J"⟩
abbrev cX8_isWholeTimes : ByteArray := prog_1_method_32_code
def yX8_isWholeTimes : MethodName := ⟨RX8, "isWholeTimes", "(J)Z"⟩
abbrev cX8_addTimes : ByteArray := prog_1_method_33_code
def yX8_addTimes : MethodName := ⟨RX8, "addTimes", "(J[I)V"⟩
abbrev cX8_isSlot : ByteArray := prog_1_method_34_code
def yX8_isSlot : MethodName := ⟨RX8, "isSlot", "(I)Z"⟩
abbrev cX8_groupIndex : ByteArray := prog_1_method_35_code
def yX8_groupIndex : MethodName := ⟨RX8, "groupIndex", "(II)I"⟩
abbrev cX8_bit : ByteArray := prog_1_method_36_code
def yX8_bit : MethodName := ⟨RX8, "bit", "(Z)I"⟩
abbrev cX8_partAt : ByteArray := prog_1_method_37_code
def yX8_partAt : MethodName := ⟨RX8, "partAt", "([II)I"⟩
abbrev cX8_factorialOf : ByteArray := prog_1_method_38_code
def yX8_factorialOf : MethodName := ⟨RX8, "factorialOf", "(I)I"⟩
abbrev cX8_greatestDivisor : ByteArray := prog_1_method_39_code
def yX8_greatestDivisor : MethodName := ⟨RX8, "greatestDivisor", "(JJ)J"⟩
def RX9 : String := "PrimeBlocksModel"
def TX9 : u_T := fun k => match k with
  | 0 => ("PrimeBlocksModel", "n", "I", false)
  | 1 => ("PrimeBlocksModel", "p", "I", false)
  | 2 => ("PrimeBlocksModel", "all", "I", false)
  | 3 => ("PrimeBlocksModel", "part", "[I", true)
  | 4 => ("PrimeBlocksModel", "parts", "[I", true)
  | 5 => ("PrimeBlocksModel", "size", "[I", true)
  | 6 => ("PrimeBlocksModel", "order", "[I", true)
  | 7 => ("PrimeBlocksModel", "isRegular", "[Z", true)
  | 8 => ("PrimeBlocksModel", "isClassRegular", "[Z", true)
  | 9 => ("PrimeBlocksModel", "sign", "[I", true)
  | 10 => ("PrimeBlocksModel", "regularOf", "[I", true)
  | 11 => ("PrimeBlocksModel", "regulars", "I", false)
  | 12 => ("PrimeBlocksModel", "whole", "I", false)
  | 13 => ("PrimeBlocksModel", "row", "[I", true)
  | 14 => ("PrimeBlocksModel", "chars", "[I", true)
  | 15 => ("PrimeBlocksModel", "weight", "[I", true)
  | 16 => ("PrimeBlocksModel", "core", "[I", true)
  | 17 => ("PrimeBlocksModel", "block", "[I", true)
  | 18 => ("PrimeBlocksModel", "blocks", "I", false)
  | 19 => ("PrimeBlocksModel", "leastOf", "[I", true)
  | 20 => ("PrimeBlocksModel", "first", "[I", true)
  | 21 => ("PrimeBlocksModel", "many", "[I", true)
  | 22 => ("PrimeBlocksModel", "filled", "[I", true)
  | 23 => ("PrimeBlocksModel", "tableaux", "I", false)
  | 24 => ("PrimeBlocksModel", "cell", "[I", true)
  | 25 => ("PrimeBlocksModel", "shape", "I", false)
  | 26 => ("PrimeBlocksModel", "placeOf", "[I", true)
  | 27 => ("PrimeBlocksModel", "seen", "[I", true)
  | 28 => ("PrimeBlocksModel", "tabloids", "I", false)
  | 29 => ("PrimeBlocksModel", "sums", "[I", true)
  | 30 => ("PrimeBlocksModel", "other", "[I", true)
  | 31 => ("PrimeBlocksModel", "held", "[I", true)
  | 32 => ("PrimeBlocksModel", "inRow", "[I", true)
  | 33 => ("PrimeBlocksModel", "moved", "[I", true)
  | 34 => ("PrimeBlocksModel", "matrix", "[I", true)
  | 35 => ("PrimeBlocksModel", "gram", "[I", true)
  | 36 => ("PrimeBlocksModel", "rank", "[I", true)
  | 37 => ("PrimeBlocksModel", "modular", "[I", true)
  | 38 => ("PrimeBlocksModel", "made", "[I", true)
  | 39 => ("PrimeBlocksModel", "system", "[I", true)
  | 40 => ("PrimeBlocksModel", "projective", "[I", true)
  | 41 => ("PrimeBlocksModel", "table", "[J", true)
  | 42 => ("PrimeBlocksModel", "member", "[I", true)
  | 43 => ("PrimeBlocksModel", "slot", "[J", true)
  | 44 => ("PrimeBlocksModel", "aside", "[J", true)
  | 45 => ("PrimeBlocksModel", "tape", "[I", true)
  | 46 => ("PrimeBlocksModel", "taped", "I", false)
  | 47 => ("PrimeBlocksModel", "at", "I", false)
  | 48 => ("PrimeBlocksModel", "fault", "I", false)
  | 49 => ("PrimeBlocksModel", "faultPlace", "I", false)
  | 50 => ("PrimeBlocksModel", "withins", "I", false)
  | 51 => ("PrimeBlocksModel", "within", "[I", true)
  | 52 => ("PrimeBlocksModel", "begun", "[I", true)
  | 53 => ("PrimeBlocksModel", "begins", "I", false)
  | 54 => ("PrimeBlocksModel", "number", "I", false)
  | 55 => ("PrimeBlocksModel", "numberAt", "I", false)
  | 56 => ("PrimeBlocksModel", "sumNow", "[J", true)
  | 57 => ("PrimeBlocksModel", "termNow", "[J", true)
  | 58 => ("PrimeBlocksModel", "factor", "[J", true)
  | 59 => ("PrimeBlocksModel", "deep", "I", false)
  | 60 => ("PrimeBlocksModel", "listed", "[I", true)
  | 61 => ("PrimeBlocksModel", "lists", "I", false)
  | _ => ("PrimeBlocksModel", "room", "[I", true)
def tyX9 : Nat → FieldType := fun k => match k with
  | 0 => .int
  | 1 => .int
  | 2 => .int
  | 3 => .array .int
  | 4 => .array .int
  | 5 => .array .int
  | 6 => .array .int
  | 7 => .array .boolean
  | 8 => .array .boolean
  | 9 => .array .int
  | 10 => .array .int
  | 11 => .int
  | 12 => .int
  | 13 => .array .int
  | 14 => .array .int
  | 15 => .array .int
  | 16 => .array .int
  | 17 => .array .int
  | 18 => .int
  | 19 => .array .int
  | 20 => .array .int
  | 21 => .array .int
  | 22 => .array .int
  | 23 => .int
  | 24 => .array .int
  | 25 => .int
  | 26 => .array .int
  | 27 => .array .int
  | 28 => .int
  | 29 => .array .int
  | 30 => .array .int
  | 31 => .array .int
  | 32 => .array .int
  | 33 => .array .int
  | 34 => .array .int
  | 35 => .array .int
  | 36 => .array .int
  | 37 => .array .int
  | 38 => .array .int
  | 39 => .array .int
  | 40 => .array .int
  | 41 => .array .long
  | 42 => .array .int
  | 43 => .array .long
  | 44 => .array .long
  | 45 => .array .int
  | 46 => .int
  | 47 => .int
  | 48 => .int
  | 49 => .int
  | 50 => .int
  | 51 => .array .int
  | 52 => .array .int
  | 53 => .int
  | 54 => .int
  | 55 => .int
  | 56 => .array .long
  | 57 => .array .long
  | 58 => .array .long
  | 59 => .int
  | 60 => .array .int
  | 61 => .int
  | _ => .array .int
theorem nmX9 : ∀ a, a < 63 → ∀ b, b < 63 → a ≠ b → (TX9 a).2.1 ≠ (TX9 b).2.1 := by decide +kernel
theorem tyX9_ok : ∀ k, k < 63 → parseFieldDescriptor (TX9 k).2.2.1 = some (tyX9 k) := by decide +kernel
abbrev cX9_isIn : ByteArray := prog_11_method_1_code
def yX9_isIn : MethodName := ⟨RX9, "isIn", "(JJJ)Z"⟩
abbrev cX9_one : ByteArray := prog_11_method_2_code
def yX9_one : MethodName := ⟨RX9, "one", "(Z)I"⟩
abbrev cX9_bits : ByteArray := prog_11_method_3_code
def yX9_bits : MethodName := ⟨RX9, "bits", "(I)I"⟩
abbrev cX9_init : ByteArray := prog_11_method_4_code
def yX9_init : MethodName := ⟨RX9, "<init>", "()V"⟩
abbrev cX9_grows : ByteArray := prog_11_method_5_code
def yX9_grows : MethodName := ⟨RX9, "grows", "(III)V"⟩
abbrev cX9_partOf : ByteArray := prog_11_method_6_code
def yX9_partOf : MethodName := ⟨RX9, "partOf", "(II)I"⟩
abbrev cX9_gcd : ByteArray := prog_11_method_7_code
def yX9_gcd : MethodName := ⟨RX9, "gcd", "(II)I"⟩
abbrev cX9_classes : ByteArray := prog_11_method_8_code
def yX9_classes : MethodName := ⟨RX9, "classes", "()V"⟩
abbrev cX9_beadsOf : ByteArray := prog_11_method_9_code
def yX9_beadsOf : MethodName := ⟨RX9, "beadsOf", "(I)I"⟩
abbrev cX9_charOf : ByteArray := prog_11_method_10_code
def yX9_charOf : MethodName := ⟨RX9, "charOf", "(III)I"⟩
abbrev cX9_cores : ByteArray := prog_11_method_11_code
def yX9_cores : MethodName := ⟨RX9, "cores", "()V"⟩
abbrev cX9_partBy : ByteArray := prog_11_method_12_code
def yX9_partBy : MethodName := ⟨RX9, "partBy", "(II)I"⟩
abbrev cX9_rowOf : ByteArray := prog_11_method_13_code
def yX9_rowOf : MethodName := ⟨RX9, "rowOf", "(I)I"⟩
abbrev cX9_cellAt : ByteArray := prog_11_method_14_code
def yX9_cellAt : MethodName := ⟨RX9, "cellAt", "(II)I"⟩
abbrev cX9_fills : ByteArray := prog_11_method_15_code
def yX9_fills : MethodName := ⟨RX9, "fills", "(II)V"⟩
abbrev cX9_placeNow : ByteArray := prog_11_method_16_code
def yX9_placeNow : MethodName := ⟨RX9, "placeNow", "()I"⟩
abbrev cX9_spreads : ByteArray := prog_11_method_17_code
def yX9_spreads : MethodName := ⟨RX9, "spreads", "([IIIII)V"⟩
abbrev cX9_swaps : ByteArray := prog_11_method_18_code
def yX9_swaps : MethodName := ⟨RX9, "swaps", "(II)V"⟩
abbrev cX9_sumsOf : ByteArray := prog_11_method_19_code
def yX9_sumsOf : MethodName := ⟨RX9, "sumsOf", "([I)V"⟩
abbrev cX9_begins : ByteArray := prog_11_method_20_code
def yX9_begins : MethodName := ⟨RX9, "begins", "(I)V"⟩
abbrev cX9_form : ByteArray := prog_11_method_21_code
def yX9_form : MethodName := ⟨RX9, "form", "([II[II)I"⟩
abbrev cX9_power : ByteArray := prog_11_method_22_code
def yX9_power : MethodName := ⟨RX9, "power", "(III)I"⟩
abbrev cX9_rankOf : ByteArray := prog_11_method_23_code
def yX9_rankOf : MethodName := ⟨RX9, "rankOf", "(I)I"⟩
abbrev cX9_forms : ByteArray := prog_11_method_24_code
def yX9_forms : MethodName := ⟨RX9, "forms", "(I)V"⟩
abbrev cX9_moves : ByteArray := prog_11_method_25_code
def yX9_moves : MethodName := ⟨RX9, "moves", "(II)V"⟩
abbrev cX9_fixed : ByteArray := prog_11_method_26_code
def yX9_fixed : MethodName := ⟨RX9, "fixed", "(II)I"⟩
abbrev cX9_mobius : ByteArray := prog_11_method_27_code
def yX9_mobius : MethodName := ⟨RX9, "mobius", "(I)I"⟩
abbrev cX9_units : ByteArray := prog_11_method_28_code
def yX9_units : MethodName := ⟨RX9, "units", "(I)I"⟩
abbrev cX9_modularOf : ByteArray := prog_11_method_29_code
def yX9_modularOf : MethodName := ⟨RX9, "modularOf", "(I)I"⟩
abbrev cX9_decomposes : ByteArray := prog_11_method_30_code
def yX9_decomposes : MethodName := ⟨RX9, "decomposes", "()V"⟩
abbrev cX9_lays : ByteArray := prog_11_method_31_code
def yX9_lays : MethodName := ⟨RX9, "lays", "(II)V"⟩
abbrev cX9_group : ByteArray := prog_11_method_32_code
def yX9_group : MethodName := ⟨RX9, "group", "(II)I"⟩
abbrev cX9_isPart : ByteArray := prog_11_method_33_code
def yX9_isPart : MethodName := ⟨RX9, "isPart", "(I)Z"⟩
abbrev cX9_partition : ByteArray := prog_11_method_34_code
def yX9_partition : MethodName := ⟨RX9, "partition", "(II)I"⟩
abbrev cX9_isTurned : ByteArray := prog_11_method_35_code
def yX9_isTurned : MethodName := ⟨RX9, "isTurned", "(II)Z"⟩
abbrev cX9_turned : ByteArray := prog_11_method_36_code
def yX9_turned : MethodName := ⟨RX9, "turned", "(I)I"⟩
abbrev cX9_of : ByteArray := prog_11_method_37_code
def yX9_of : MethodName := ⟨RX9, "of", "(II)I"⟩
abbrev cX9_core : ByteArray := prog_11_method_38_code
def yX9_core : MethodName := ⟨RX9, "core", "(II)I"⟩
abbrev cX9_hook : ByteArray := prog_11_method_39_code
def yX9_hook : MethodName := ⟨RX9, "hook", "(III)I"⟩
abbrev cX9_classOf : ByteArray := prog_11_method_40_code
def yX9_classOf : MethodName := ⟨RX9, "classOf", "(II)I"⟩
abbrev cX9_character : ByteArray := prog_11_method_41_code
def yX9_character : MethodName := ⟨RX9, "character", "(II)I"⟩
abbrev cX9_modular : ByteArray := prog_11_method_42_code
def yX9_modular : MethodName := ⟨RX9, "modular", "(II)I"⟩
abbrev cX9_projective : ByteArray := prog_11_method_43_code
def yX9_projective : MethodName := ⟨RX9, "projective", "(II)I"⟩
abbrev cX9_isRegularOne : ByteArray := prog_11_method_44_code
def yX9_isRegularOne : MethodName := ⟨RX9, "isRegularOne", "(I)Z"⟩
abbrev cX9_decomposition : ByteArray := prog_11_method_45_code
def yX9_decomposition : MethodName := ⟨RX9, "decomposition", "(II)I"⟩
abbrev cX9_cartanOf : ByteArray := prog_11_method_46_code
def yX9_cartanOf : MethodName := ⟨RX9, "cartanOf", "(II)I"⟩
abbrev cX9_cartan : ByteArray := prog_11_method_47_code
def yX9_cartan : MethodName := ⟨RX9, "cartan", "(II)I"⟩
abbrev cX9_tableau : ByteArray := prog_11_method_48_code
def yX9_tableau : MethodName := ⟨RX9, "tableau", "(IIII)I"⟩
abbrev cX9_gram : ByteArray := prog_11_method_49_code
def yX9_gram : MethodName := ⟨RX9, "gram", "(III)I"⟩
abbrev cX9_membersOf : ByteArray := prog_11_method_50_code
def yX9_membersOf : MethodName := ⟨RX9, "membersOf", "(I)I"⟩
abbrev cX9_determinant : ByteArray := prog_11_method_51_code
def yX9_determinant : MethodName := ⟨RX9, "determinant", "(I)J"⟩
abbrev cX9_defect : ByteArray := prog_11_method_52_code
def yX9_defect : MethodName := ⟨RX9, "defect", "(I)I"⟩
abbrev cX9_block : ByteArray := prog_11_method_53_code
def yX9_block : MethodName := ⟨RX9, "block", "(II)I"⟩
abbrev cX9_isSlot : ByteArray := prog_11_method_54_code
def yX9_isSlot : MethodName := ⟨RX9, "isSlot", "(I)Z"⟩
abbrev cX9_value : ByteArray := prog_11_method_55_code
def yX9_value : MethodName := ⟨RX9, "value", "(II)J"⟩
abbrev cX9_ordinarySum : ByteArray := prog_11_method_56_code
def yX9_ordinarySum : MethodName := ⟨RX9, "ordinarySum", "(II)J"⟩
abbrev cX9_modularSum : ByteArray := prog_11_method_57_code
def yX9_modularSum : MethodName := ⟨RX9, "modularSum", "(II)J"⟩
abbrev cX9_divisor : ByteArray := prog_11_method_58_code
def yX9_divisor : MethodName := ⟨RX9, "divisor", "(JJ)J"⟩
abbrev cX9_parts : ByteArray := prog_11_method_59_code
def yX9_parts : MethodName := ⟨RX9, "parts", "(III)J"⟩
abbrev cX9_inner : ByteArray := prog_11_method_60_code
def yX9_inner : MethodName := ⟨RX9, "inner", "(II)J"⟩
abbrev cX9_areWhole : ByteArray := prog_11_method_61_code
def yX9_areWhole : MethodName := ⟨RX9, "areWhole", "(IZZ)Z"⟩
abbrev cX9_kind : ByteArray := prog_11_method_62_code
def yX9_kind : MethodName := ⟨RX9, "kind", "(II)I"⟩
abbrev cX9_cut : ByteArray := prog_11_method_63_code
def yX9_cut : MethodName := ⟨RX9, "cut", "(III)I"⟩
abbrev cX9_four : ByteArray := prog_11_method_64_code
def yX9_four : MethodName := ⟨RX9, "four", "(I)V"⟩
abbrev cX9_feed : ByteArray := prog_11_method_65_code
def yX9_feed : MethodName := ⟨RX9, "feed", "(IIIII)I"⟩
abbrev cX9_end : ByteArray := prog_11_method_66_code
def yX9_end : MethodName := ⟨RX9, "end", "(I)Z"⟩
abbrev cX9_see : ByteArray := prog_11_method_67_code
def yX9_see : MethodName := ⟨RX9, "see", "()I"⟩
abbrev cX9_fails : ByteArray := prog_11_method_68_code
def yX9_fails : MethodName := ⟨RX9, "fails", "(II)Z"⟩
abbrev cX9_begin : ByteArray := prog_11_method_69_code
def yX9_begin : MethodName := ⟨RX9, "begin", "()V"⟩
abbrev cX9_readsNumber : ByteArray := prog_11_method_70_code
def yX9_readsNumber : MethodName := ⟨RX9, "readsNumber", "()Z"⟩
abbrev cX9_readsPart : ByteArray := prog_11_method_71_code
def yX9_readsPart : MethodName := ⟨RX9, "readsPart", "()I"⟩
abbrev cX9_isListed : ByteArray := prog_11_method_72_code
def yX9_isListed : MethodName := ⟨RX9, "isListed", "(I)Z"⟩
abbrev cX9_fillings : ByteArray := prog_11_method_73_code
def yX9_fillings : MethodName := ⟨RX9, "fillings", "(III)I"⟩
abbrev cX9_readsNamed : ByteArray := prog_11_method_74_code
def yX9_readsNamed : MethodName := ⟨RX9, "readsNamed", "(I)Z"⟩
abbrev cX9_readsSlot : ByteArray := prog_11_method_75_code
def yX9_readsSlot : MethodName := ⟨RX9, "readsSlot", "()Z"⟩
abbrev cX9_readsInner : ByteArray := prog_11_method_76_code
def yX9_readsInner : MethodName := ⟨RX9, "readsInner", "()Z"⟩
abbrev cX9_readsFactor : ByteArray := prog_11_method_77_code
def yX9_readsFactor : MethodName := ⟨RX9, "readsFactor", "()Z"⟩
abbrev cX9_areNear : ByteArray := prog_11_method_78_code
def yX9_areNear : MethodName := ⟨RX9, "areNear", "([J)Z"⟩
abbrev cX9_readsTerm : ByteArray := prog_11_method_79_code
def yX9_readsTerm : MethodName := ⟨RX9, "readsTerm", "()Z"⟩
abbrev cX9_readsSum : ByteArray := prog_11_method_80_code
def yX9_readsSum : MethodName := ⟨RX9, "readsSum", "()Z"⟩
abbrev cX9_text : ByteArray := prog_11_method_81_code
def yX9_text : MethodName := ⟨RX9, "text", "(I)I"⟩
abbrev cX9_fault : ByteArray := prog_11_method_82_code
def yX9_fault : MethodName := ⟨RX9, "fault", "(I)I"⟩
abbrev cX9_look : ByteArray := prog_11_method_83_code
def yX9_look : MethodName := ⟨RX9, "look", "(I)I"⟩
def RJx8e188 : String := "java/lang/Cloneable"
def RJ6 : String := "java/lang/Integer"
abbrev cJ6_bitCount_0f7a4 : ByteArray := prog_13_method_49_code
def yJ6_bitCount_0f7a4 : MethodName := ⟨RJ6, "bitCount", "(I)I"⟩
def RJ9 : String := "java/lang/Math"
abbrev cJ9_floorMod_7cf53 : ByteArray := prog_14_method_50_code
def yJ9_floorMod_7cf53 : MethodName := ⟨RJ9, "floorMod", "(II)I"⟩
abbrev cJ9_abs_067f4 : ByteArray := prog_14_method_61_code
def yJ9_abs_067f4 : MethodName := ⟨RJ9, "abs", "(J)J"⟩
abbrev cJ9_max_7cf53 : ByteArray := prog_14_method_65_code
def yJ9_max_7cf53 : MethodName := ⟨RJ9, "max", "(II)I"⟩
abbrev cJ9_min_7cf53 : ByteArray := prog_14_method_69_code
def yJ9_min_7cf53 : MethodName := ⟨RJ9, "min", "(II)I"⟩
def RJ10 : String := "java/lang/System"
def RJ7 : String := "java/util/Arrays"
abbrev cJ7_fill_d0a16 : ByteArray := prog_16_method_101_code
def yJ7_fill_d0a16 : MethodName := ⟨RJ7, "fill", "([JJ)V"⟩
abbrev cJ7_fill_53178 : ByteArray := prog_16_method_103_code
def yJ7_fill_53178 : MethodName := ⟨RJ7, "fill", "([II)V"⟩
abbrev cJ7_copyOf_59c91 : ByteArray := prog_16_method_123_code
def yJ7_copyOf_59c91 : MethodName := ⟨RJ7, "copyOf", "([II)[I"⟩
end
section
/-! A machine of numbers alone, which the kernel can run: values, cells, words packed into one number, a tree of cells -/
abbrev zV : Type := Nat ⊕ (Nat ⊕ (Nat ⊕ Nat))
abbrev zI (n : Nat) : zV := Sum.inl n
abbrev zR (n : Nat) : zV := Sum.inr (Sum.inl n)
abbrev zL (n : Nat) : zV := Sum.inr (Sum.inr (Sum.inl n))
abbrev zU : zV := Sum.inr (Sum.inr (Sum.inr 0))
/-- a reference to one of some cells that lie side by side -/
abbrev zW (n : Nat) : zV := Sum.inr (Sum.inr (Sum.inr n))
/-- kind, length, words -/
abbrev zC : Type := Nat × (Nat × Nat)
def zT : Nat → Type
  | 0 => zC
  | d + 1 => zT d × zT d
noncomputable def zget (d : Nat) : zT d → Nat → zC := Nat.rec (motive := fun d => zT d → Nat → zC) (fun c _ => c) (fun d r t i => cond (Nat.ble (Nat.pow 2 d) i) (r (Prod.snd (α := zT d) (β := zT d) t) (Nat.sub i (Nat.pow 2 d))) (r (Prod.fst (α := zT d) (β := zT d) t) i)) d
noncomputable def zset (d : Nat) : zT d → Nat → zC → zT d := Nat.rec (motive := fun d => zT d → Nat → zC → zT d) (fun _ _ c => c) (fun d r t i c => cond (Nat.ble (Nat.pow 2 d) i) (Prod.fst (α := zT d) (β := zT d) t, r (Prod.snd (α := zT d) (β := zT d) t) (Nat.sub i (Nat.pow 2 d)) c) (r (Prod.fst (α := zT d) (β := zT d) t) i c, Prod.snd (α := zT d) (β := zT d) t)) d
noncomputable def zsetK (d : Nat) : zT d → Nat → zC → (zT d → Bool) → Bool := Nat.rec (motive := fun d => zT d → Nat → zC → (zT d → Bool) → Bool) (fun _ _ c k => k c) (fun d r t i c k => Prod.rec (motive := fun _ => Bool) (fun (a b : zT d) => cond (Nat.ble (Nat.pow 2 d) i) (r b (Nat.sub i (Nat.pow 2 d)) c (fun b => k (a, b))) (r a i c (fun a => k (a, b)))) (show zT d × zT d from t)) d
theorem zget_zero (c : zT 0) (i : Nat) : zget 0 c i = c := rfl
theorem zget_succ (d : Nat) (t : zT (d + 1)) (i : Nat) : zget (d + 1) t i = cond (Nat.ble (Nat.pow 2 d) i) (zget d (Prod.snd (α := zT d) (β := zT d) t) (Nat.sub i (Nat.pow 2 d))) (zget d (Prod.fst (α := zT d) (β := zT d) t) i) := rfl
theorem zset_succ (d : Nat) (t : zT (d + 1)) (i : Nat) (c : zC) : zset (d + 1) t i c = cond (Nat.ble (Nat.pow 2 d) i) (Prod.fst (α := zT d) (β := zT d) t, zset d (Prod.snd (α := zT d) (β := zT d) t) (Nat.sub i (Nat.pow 2 d)) c) (zset d (Prod.fst (α := zT d) (β := zT d) t) i c, Prod.snd (α := zT d) (β := zT d) t) := rfl
theorem zsetK_eq (d : Nat) : ∀ (t : zT d) (i : Nat) (c : zC) (k : zT d → Bool), zsetK d t i c k = k (zset d t i c) := by
  induction d with
  | zero => intro t i c k; rfl
  | succ d ih =>
    intro t i c k
    have key : ∀ t : zT d × zT d, zsetK (d + 1) t i c k = k (zset (d + 1) t i c) := by
      intro t
      cases t with
      | mk a b =>
        show cond (Nat.ble (Nat.pow 2 d) i) (zsetK d b (Nat.sub i (Nat.pow 2 d)) c (fun b => k (a, b))) (zsetK d a i c (fun a => k (a, b))) = k (cond (Nat.ble (Nat.pow 2 d) i) (a, zset d b (Nat.sub i (Nat.pow 2 d)) c) (zset d a i c, b))
        cases Nat.ble (Nat.pow 2 d) i
        · exact ih a i c (fun a => k (a, b))
        · exact ih b (Nat.sub i (Nat.pow 2 d)) c (fun b => k (a, b))
    exact key t
theorem zget_set_same (d : Nat) : ∀ (t : zT d) (i : Nat) (c : zC), i < 2 ^ d → zget d (zset d t i c) i = c := by
  induction d with
  | zero => intro t i c h; rfl
  | succ d ih =>
    intro t i c h
    have h2 : i < 2 ^ d + 2 ^ d := by rw [Nat.pow_succ] at h; omega
    have key : ∀ t : zT d × zT d, zget (d + 1) (zset (d + 1) t i c) i = c := by
      intro t
      cases t with
      | mk a b =>
        show cond (Nat.ble (Nat.pow 2 d) i) (zget d (Prod.snd (α := zT d) (β := zT d) (cond (Nat.ble (Nat.pow 2 d) i) (a, zset d b (Nat.sub i (Nat.pow 2 d)) c) (zset d a i c, b))) (Nat.sub i (Nat.pow 2 d))) (zget d (Prod.fst (α := zT d) (β := zT d) (cond (Nat.ble (Nat.pow 2 d) i) (a, zset d b (Nat.sub i (Nat.pow 2 d)) c) (zset d a i c, b))) i) = c
        cases hb : Nat.ble (Nat.pow 2 d) i
        · have hlt : i < 2 ^ d := Nat.lt_of_not_le (fun q => by rw [show Nat.ble (Nat.pow 2 d) i = true from Nat.ble_eq_true_of_le q] at hb; cases hb)
          exact ih a i c hlt
        · have hle : 2 ^ d ≤ i := Nat.le_of_ble_eq_true hb
          exact ih b (i - 2 ^ d) c (show i - 2 ^ d < 2 ^ d by omega)
    exact key t
theorem zget_set_ne (d : Nat) : ∀ (t : zT d) (i j : Nat) (c : zC), i < 2 ^ d → j < 2 ^ d → i ≠ j → zget d (zset d t i c) j = zget d t j := by
  induction d with
  | zero => intro t i j c h1 h2 h; exact absurd (show i = j by have : (2:Nat) ^ 0 = 1 := rfl; omega) h
  | succ d ih =>
    intro t i j c h1 h2 h
    have g1 : i < 2 ^ d + 2 ^ d := by rw [Nat.pow_succ] at h1; omega
    have g2 : j < 2 ^ d + 2 ^ d := by rw [Nat.pow_succ] at h2; omega
    have key : ∀ t : zT d × zT d, zget (d + 1) (zset (d + 1) t i c) j = zget (d + 1) t j := by
      intro t
      cases t with
      | mk a b =>
        show cond (Nat.ble (Nat.pow 2 d) j) (zget d (Prod.snd (α := zT d) (β := zT d) (cond (Nat.ble (Nat.pow 2 d) i) (a, zset d b (Nat.sub i (Nat.pow 2 d)) c) (zset d a i c, b))) (Nat.sub j (Nat.pow 2 d))) (zget d (Prod.fst (α := zT d) (β := zT d) (cond (Nat.ble (Nat.pow 2 d) i) (a, zset d b (Nat.sub i (Nat.pow 2 d)) c) (zset d a i c, b))) j) = cond (Nat.ble (Nat.pow 2 d) j) (zget d b (Nat.sub j (Nat.pow 2 d))) (zget d a j)
        cases hb : Nat.ble (Nat.pow 2 d) i <;> cases hc : Nat.ble (Nat.pow 2 d) j
        · have a1 : i < 2 ^ d := Nat.lt_of_not_le (fun q => by rw [show Nat.ble (Nat.pow 2 d) i = true from Nat.ble_eq_true_of_le q] at hb; cases hb)
          have a2 : j < 2 ^ d := Nat.lt_of_not_le (fun q => by rw [show Nat.ble (Nat.pow 2 d) j = true from Nat.ble_eq_true_of_le q] at hc; cases hc)
          exact ih a i j c a1 a2 h
        · rfl
        · rfl
        · have a1 : 2 ^ d ≤ i := Nat.le_of_ble_eq_true hb
          have a2 : 2 ^ d ≤ j := Nat.le_of_ble_eq_true hc
          exact ih b (i - 2 ^ d) (j - 2 ^ d) c (show i - 2 ^ d < 2 ^ d by omega) (show j - 2 ^ d < 2 ^ d by omega) (show i - 2 ^ d ≠ j - 2 ^ d by omega)
    exact key t
/-- word i of b bits -/
def zwd (b x i : Nat) : Nat := Nat.mod (Nat.shiftRight x (Nat.mul b i)) (Nat.pow 2 b)
def zup (b x i v : Nat) : Nat := Nat.xor x (Nat.shiftLeft (Nat.xor (zwd b x i) v) (Nat.mul b i))
theorem zwd_lt (b x i : Nat) : zwd b x i < 2 ^ b := Nat.mod_lt _ (Nat.two_pow_pos b)
theorem zwd_bit (b x i t : Nat) (h : t < b) : (zwd b x i).testBit t = x.testBit (b * i + t) := by
  show ((x >>> (b * i)) % 2 ^ b).testBit t = _
  rw [Nat.testBit_mod_two_pow, Nat.testBit_shiftRight]
  simp [h]
theorem zwd_ext {b x y : Nat} (hx : x < 2 ^ b) (hy : y < 2 ^ b) (h : ∀ t, t < b → x.testBit t = y.testBit t) : x = y := by
  apply Nat.eq_of_testBit_eq
  intro t
  by_cases ht : t < b
  · exact h t ht
  · rw [Nat.testBit_lt_two_pow (Nat.lt_of_lt_of_le hx (Nat.pow_le_pow_right (by decide) (by omega))), Nat.testBit_lt_two_pow (Nat.lt_of_lt_of_le hy (Nat.pow_le_pow_right (by decide) (by omega)))]
theorem zup_bit (b x i v t : Nat) : (zup b x i v).testBit t = (x.testBit t ^^ (decide (b * i ≤ t) && ((zwd b x i).testBit (t - b * i) ^^ v.testBit (t - b * i)))) := by
  show (x ^^^ ((zwd b x i ^^^ v) <<< (b * i))).testBit t = _
  rw [Nat.testBit_xor, Nat.testBit_shiftLeft, Nat.testBit_xor]
theorem zwd_up_same (b x i v : Nat) (hv : v < 2 ^ b) : zwd b (zup b x i v) i = v := by
  refine zwd_ext (zwd_lt _ _ _) hv (fun t ht => ?_)
  rw [zwd_bit _ _ _ _ ht, zup_bit]
  have h1 : b * i ≤ b * i + t := Nat.le_add_right _ _
  rw [show b * i + t - b * i = t by omega, zwd_bit _ _ _ _ ht]
  simp [h1]
theorem zwd_up_ne (b x i j v : Nat) (hv : v < 2 ^ b) (h : i ≠ j) : zwd b (zup b x i v) j = zwd b x j := by
  refine zwd_ext (zwd_lt _ _ _) (zwd_lt _ _ _) (fun t ht => ?_)
  rw [zwd_bit _ _ _ _ ht, zup_bit, zwd_bit _ _ _ _ ht]
  by_cases hij : j < i
  · have h2 : b * j + b ≤ b * i := by
      have := Nat.mul_le_mul_left b (show j + 1 ≤ i from hij)
      rw [Nat.mul_add, Nat.mul_one] at this
      exact this
    have h3 : ¬ b * i ≤ b * j + t := by omega
    simp [h3]
  · have h2 : b * i + b ≤ b * j := by
      have := Nat.mul_le_mul_left b (show i + 1 ≤ j by omega)
      rw [Nat.mul_add, Nat.mul_one] at this
      exact this
    have h4 : b ≤ b * j + t - b * i := by omega
    rw [Nat.testBit_lt_two_pow (Nat.lt_of_lt_of_le (zwd_lt b x i) (Nat.pow_le_pow_right (by decide) h4)), Nat.testBit_lt_two_pow (Nat.lt_of_lt_of_le hv (Nat.pow_le_pow_right (by decide) h4))]
    simp
/-- a large number as a sum of two, by its rest: so that numbers with the same low digits don't look alike -/
noncomputable def zFb (k : Nat → Bool) (x : Nat) : Bool := Nat.rec (motive := fun _ => Bool) (k x) (fun c _ => Nat.rec (motive := fun _ => Bool) (k x) (fun a _ => k (Nat.add (Nat.succ a) (Nat.succ c))) (Nat.sub x (Nat.succ c))) (Nat.mod x 2305843009213693951)
theorem zFb_eq (k : Nat → Bool) (x : Nat) : zFb k x = k x := by
  unfold zFb
  cases hc : Nat.mod x 2305843009213693951 with
  | zero => rfl
  | succ c =>
    show Nat.rec (motive := fun _ => Bool) (k x) (fun a _ => k (Nat.add (Nat.succ a) (Nat.succ c))) (Nat.sub x (Nat.succ c)) = k x
    cases ha : Nat.sub x (Nat.succ c) with
    | zero => rfl
    | succ a =>
      show k (Nat.add (Nat.succ a) (Nat.succ c)) = k x
      have h2 : x - (c + 1) = a + 1 := ha
      have e : Nat.add (Nat.succ a) (Nat.succ c) = x := by
        show (a + 1) + (c + 1) = x
        omega
      rw [e]
/-- a number worked out before it goes on -/
noncomputable def zF (k : Nat → Bool) (x : Nat) : Bool := Nat.rec (motive := fun _ => Bool) (k 0) (fun n _ => Bool.rec (motive := fun _ => Bool) (k (Nat.succ n)) (zFb k (Nat.succ n)) (Nat.ble 18446744073709551616 n)) x
theorem zF_eq (k : Nat → Bool) (x : Nat) : zF k x = k x := by
  cases x with
  | zero => rfl
  | succ n =>
    show Bool.rec (motive := fun _ => Bool) (k (Nat.succ n)) (zFb k (Nat.succ n)) (Nat.ble 18446744073709551616 n) = k (n + 1)
    cases Nat.ble 18446744073709551616 n with
    | false => rfl
    | true => exact zFb_eq k (Nat.succ n)
/-- an int's and a long's number -/
def zi (i : Int32) : Nat := i.toBitVec.toNat
def zj (i : Int64) : Nat := i.toBitVec.toNat
theorem zi_lt (i : Int32) : zi i < 4294967296 := i.toBitVec.isLt
theorem zj_lt (i : Int64) : zj i < 18446744073709551616 := i.toBitVec.isLt
theorem zi_inj {i j : Int32} (h : zi i = zi j) : i = j := Int32.toBitVec_inj.mp (BitVec.eq_of_toNat_eq h)
theorem zj_inj {i j : Int64} (h : zj i = zj j) : i = j := Int64.toBitVec_inj.mp (BitVec.eq_of_toNat_eq h)
theorem zi_toInt (i : Int32) : i.toInt = if zi i < 2147483648 then (zi i : Int) else (zi i : Int) - 4294967296 := by
  have h : i.toInt = i.toBitVec.toInt := rfl
  rw [h, BitVec.toInt_eq_toNat_cond]
  show (if 2 * zi i < 2 ^ 32 then (zi i : Int) else (zi i : Int) - ((2 ^ 32 : Nat) : Int)) = _
  have e : ((2 ^ 32 : Nat) : Int) = 4294967296 := by decide
  rw [e]
  by_cases q : zi i < 2147483648
  · rw [if_pos q, if_pos (by omega)]
  · rw [if_neg q, if_neg (by omega)]
theorem zj_toInt (i : Int64) : i.toInt = if zj i < 9223372036854775808 then (zj i : Int) else (zj i : Int) - 18446744073709551616 := by
  have h : i.toInt = i.toBitVec.toInt := rfl
  rw [h, BitVec.toInt_eq_toNat_cond]
  show (if 2 * zj i < 2 ^ 64 then (zj i : Int) else (zj i : Int) - ((2 ^ 64 : Nat) : Int)) = _
  have e : ((2 ^ 64 : Nat) : Int) = 18446744073709551616 := by decide
  rw [e]
  by_cases q : zj i < 9223372036854775808
  · rw [if_pos q, if_pos (by omega)]
  · rw [if_neg q, if_neg (by omega)]
theorem zi_add (x y : Int32) : zi (x + y) = (zi x + zi y) % 4294967296 := by
  show (x + y).toBitVec.toNat = _
  rw [Int32.toBitVec_add, BitVec.toNat_add]
  rfl
theorem zi_mul (x y : Int32) : zi (x * y) = (zi x * zi y) % 4294967296 := by
  show (x * y).toBitVec.toNat = _
  rw [Int32.toBitVec_mul, BitVec.toNat_mul]
  rfl
theorem zi_sub (x y : Int32) : zi (x - y) = (zi x + (4294967296 - zi y)) % 4294967296 := by
  show (x - y).toBitVec.toNat = _
  rw [Int32.toBitVec_sub, BitVec.toNat_sub, Nat.add_comm]
  rfl
theorem zj_add (x y : Int64) : zj (x + y) = (zj x + zj y) % 18446744073709551616 := by
  show (x + y).toBitVec.toNat = _
  rw [Int64.toBitVec_add, BitVec.toNat_add]
  rfl
theorem zj_mul (x y : Int64) : zj (x * y) = (zj x * zj y) % 18446744073709551616 := by
  show (x * y).toBitVec.toNat = _
  rw [Int64.toBitVec_mul, BitVec.toNat_mul]
  rfl
theorem zj_sub (x y : Int64) : zj (x - y) = (zj x + (18446744073709551616 - zj y)) % 18446744073709551616 := by
  show (x - y).toBitVec.toNat = _
  rw [Int64.toBitVec_sub, BitVec.toNat_sub, Nat.add_comm]
  rfl
theorem zi_and (x y : Int32) : zi (x &&& y) = Nat.land (zi x) (zi y) := by
  show (x &&& y).toBitVec.toNat = _
  rw [Int32.toBitVec_and, BitVec.toNat_and]
  rfl
theorem zi_or (x y : Int32) : zi (x ||| y) = Nat.lor (zi x) (zi y) := by
  show (x ||| y).toBitVec.toNat = _
  rw [Int32.toBitVec_or, BitVec.toNat_or]
  rfl
theorem zi_xor (x y : Int32) : zi (x ^^^ y) = Nat.xor (zi x) (zi y) := by
  show (x ^^^ y).toBitVec.toNat = _
  rw [Int32.toBitVec_xor, BitVec.toNat_xor]
  rfl
theorem zlor_lt {a b w : Nat} (h : Nat.lor a b < 2 ^ w) : a < 2 ^ w ∧ b < 2 ^ w := ⟨Nat.lt_of_le_of_lt Nat.left_le_or h, Nat.lt_of_le_of_lt Nat.right_le_or h⟩
end
section
/-! what a state of the machine of numbers says of a state of the machine -/
abbrev zcl : List vw_C := [(RX0, TX0, 8), (RX1, TX1, 4), (RX2, TX2, 15), (RX3, TX3, 2), (RX4, TX4, 16), (RX5, TX5, 12), (RX6, TX6, 2), (RX7, TX7, 14), (RX8, TX8, 8), (RX9, TX9, 63)]
/-- of a class and a field: its type -/
def zfty (ci k : Nat) : FieldType := match ci with
  | 0 => tyX0 k
  | 1 => tyX1 k
  | 2 => tyX2 k
  | 3 => tyX3 k
  | 4 => tyX4 k
  | 5 => tyX5 k
  | 6 => tyX6 k
  | 7 => tyX7 k
  | 8 => tyX8 k
  | _ => tyX9 k
def zisR (t : FieldType) : Bool := match t with
  | .array _ => true
  | .object _ => true
  | _ => false
/-- own class, code, locals, what it returns, name -/
abbrev zM : Type := String × ByteArray × Nat × Option FieldType × String
abbrev zH (d : Nat) : Type := zT d × (Nat × (Nat × Nat))
abbrev zP (d : Nat) : Type := zV → zH d → Bool
abbrev zK (d : Nat) : Type := List zV → List zV → zH d → Bool
/-- what symbols stand for in a frame -/
def zGhT : Type := Nat → Nat
abbrev zGh : Type := Inhabited zGhT
def zg [G : zGh] : Nat → Nat := G.default
/-- what marked words and marked arrays stand for in the heap: contents by kind, how many are seen -/
def zChT : Type := (Nat → Nat → Int32) × Nat
abbrev zCh : Type := Inhabited zChT
def zcF [C : zCh] : Nat → Nat → Int32 := (show (Nat → Nat → Int32) × Nat from C.default).1
def zcT [C : zCh] : Nat := (show (Nat → Nat → Int32) × Nat from C.default).2
def zsum (n : Nat) (f : Nat → Nat) : Nat := Nat.rec (motive := fun _ => Nat) 0 (fun m r => Nat.add r (f m)) n
/-- all of 1 .. n, each once -/
def zPm (n : Nat) (f : Nat → Nat) : Prop := ∀ g : Nat → Nat, zsum n (fun i => g (f i)) = zsum n (fun i => g (i + 1))
/-- a partition told by one number, base 8: part, row of a cell, its place column by column, how many cells -/
def zpt (lam i : Nat) : Nat := Nat.mod (Nat.div lam (Nat.pow 8 i)) 8
def zpn (lam : Nat) : Nat := zsum 6 (fun i => zpt lam i)
def zrw (lam c : Nat) : Nat := zsum 6 (fun i => cond (Nat.ble (zsum (Nat.succ i) (fun j => zpt lam j)) c) 1 0)
def zco (lam c : Nat) : Nat := Nat.sub c (zsum (zrw lam c) (fun j => zpt lam j))
def zps (lam c : Nat) : Nat := Nat.add (zsum 6 (fun i => Nat.min (zpt lam i) (zco lam c))) (zrw lam c)
/-- the codes of all ways to lay 1 .. m into rows -/
def zcd : Nat → Nat → Nat → List Nat
  | 0, _, acc => [acc]
  | m + 1, caps, acc => (List.range 6).flatMap (fun r => cond (Nat.beq (zpt caps r) 0) [] (zcd m (caps - 8 ^ r) (6 * acc + r)))
def zcs (lam : Nat) : List Nat := zcd (zpn lam) lam 0
/-- what is known of marked arrays: 8 held, 9 rows of numbers (x: partition + 2^20 times how many are placed), 10 places of codes, 11 codes seen -/
def zKi (F : Nat → Nat → Int32) (t kd len x : Nat) : Prop :=
  (kd = 8 → zPm (zpn (x % 1048576)) (fun i => zi (F 8 i))) ∧
  (kd = 9 → ∀ c, c < zpn (x % 1048576) → zps (x % 1048576) c < x / 1048576 → zi (F 9 (zi (F 8 c))) = zrw (x % 1048576) c) ∧
  (kd = 10 → ∀ j, j < len → zi (F 10 j) ≤ 720) ∧
  (kd = 11 → (∀ j, j < len → zi (F 11 j) < 46656) ∧ ∀ i, i < t → zi (F 11 i) ∈ zcs (x % 1048576) ∧ zi (F 10 (zi (F 11 i))) = i + 1)
def zCK [zCh] (kd len x : Nat) (f : Nat → Int32) : Prop := f = zcF kd ∧ zKi zcF zcT kd len x
def zCW [zCh] (_ : Nat) (i : Int32) : Prop := zi i = zcT ∧ zcT ≤ 720
/-- addresses of the world's cells; addresses that aren't looked at, by their words: 0 none, a + 1 address a -/
abbrev zA : Type := List Nat × (Nat → Nat)
def zop (g : Nat → Nat) (w : Nat) : Option Nat := if g (max w 21) = 0 then none else some (g (max w 21) - 1)
/-- rows: each is one of some cells that lie side by side -/
def zRs (ad : zA) (len x : Nat) (f : Nat → Option Nat) : Prop := ∀ j, j < len → ∃ (k a : Nat), x % 1048576 ≤ k ∧ k < x / 1048576 ∧ ad.1[k]? = some a ∧ f j = some a
/-- a number's code: below 2^32 itself; 2^32 not known; 2^32 + m, m < 2^38: below m; + 2^40 lo: not below lo; from 2^72 on: a symbol -/
def zIs [zGh] (n : Nat) (i : Int32) : Prop := (n < 4294967296 → zi i = n) ∧ (4294967296 < n % 1099511627776 → n % 1099511627776 < 549755813888 → zi i < n % 1099511627776 - 4294967296) ∧ n / 1099511627776 % 4294967296 ≤ zi i ∧ (4722366482869645213696 ≤ n → zi i = zg (n / 4722366482869645213696 % 65536) + n / 4722366482869645213696 / 65536)
/-- a long's code: below 2^64 itself; from 2^72 on: not below a least one, and below another -/
def zJs (n : Nat) (i : Int64) : Prop := (n < 18446744073709551616 → zj i = n) ∧ (4722366482869645213696 ≤ n → n / 4722366482869645213696 % 18446744073709551616 ≤ zj i ∧ zj i < n / 87112285931760246646623899502532662132736)
theorem zJs_of {n : Nat} {i : Int64} (h : n < 18446744073709551616 → zj i = n) (hn : n < 4722366482869645213696) : zJs n i := ⟨h, fun q => absurd q (Nat.not_le.mpr hn)⟩
theorem zJs_e {n : Nat} {i : Int64} (h : zj i = n) : zJs n i := zJs_of (fun _ => h) (by have := zj_lt i; omega)
/-- a word of an array -/
def zIa (w : Nat) (i : Int32) : Prop := (w < 4294967296 → zi i = w) ∧ (4294967296 < w → w < 549755813888 → zi i < w - 4294967296)
/-- a word of an object -/
def zIw [zCh] (w : Nat) (i : Int32) : Prop := zIa w i ∧ (w = 549755813888 → zCW w i)
theorem zIs_of [zGh] {n : Nat} {i : Int32} (h : n < 4294967296 → zi i = n) (hn : n ≤ 4294967296) : zIs n i := by
  have e1 : n % 1099511627776 = n := Nat.mod_eq_of_lt (by omega)
  have e2 : n / 1099511627776 = 0 := Nat.div_eq_of_lt (by omega)
  exact ⟨h, fun q => by rw [e1] at q; omega, by rw [e2]; exact Nat.zero_le _, fun q => absurd q (by omega)⟩
theorem zIs_e [zGh] {n : Nat} {i : Int32} (h : zi i = n) : zIs n i := zIs_of (fun _ => h) (by have := zi_lt i; omega)
theorem zIs_u [zGh] (i : Int32) : zIs 4294967296 i := zIs_of (fun q => absurd q (Nat.lt_irrefl _)) (Nat.le_refl _)
theorem zIs_a [zGh] {w : Nat} {i : Int32} (h : zIa w i) (hw : w < 1099511627776) : zIs w i := by
  have e1 : w % 1099511627776 = w := Nat.mod_eq_of_lt hw
  have e2 : w / 1099511627776 = 0 := Nat.div_eq_of_lt hw
  exact ⟨h.1, fun q1 q2 => by rw [e1] at q1 q2 ⊢; exact h.2 q1 q2, by rw [e2]; exact Nat.zero_le _, fun q => absurd q (by omega)⟩
theorem zIs_any [G : zGh] {w : Nat} {i : Int32} (h : zIs w i) (hw : w < 1099511627776) (G' : zGh) : @zIs G' w i := by
  have e1 : w % 1099511627776 = w := Nat.mod_eq_of_lt hw
  exact @zIs_a G' _ _ ⟨h.1, fun q1 q2 => by have := h.2.1; rw [e1] at this; exact this q1 q2⟩ hw
def zRf (ad : zA) (r : Nat) (o : Option Nat) : Prop := (r = 0 ∧ o = none) ∨ ∃ (k a : Nat), r = k + 1 ∧ ad.1[k]? = some a ∧ o = some a
/-- a reference in the heap: from 2^39 on one that isn't looked at -/
def zRw (ad : zA) (w : Nat) (o : Option Nat) : Prop := (w < 549755813888 ∧ zRf ad w o) ∨ (549755813888 ≤ w ∧ o = zop ad.2 w)
noncomputable def zvR (w : Nat) : zV := cond (Nat.ble 549755813888 w) (zW (Nat.add 1152921504606846976 w)) (zR w)
def zRep [zGh] (ad : zA) (v : zV) (x : Value) : Prop := match v with
  | .inl n => ∃ i : Int32, x = .int i ∧ zIs n i
  | .inr (.inl r) => ∃ o : Option Nat, x = va_rf o ∧ zRf ad r o
  | .inr (.inr (.inl n)) => ∃ i : Int64, x = .long i ∧ zJs n i
  | .inr (.inr (.inr n)) => (n < 1152921504606846976 ∧ ∃ (k a : Nat), n % 1048576 ≤ k ∧ k < n / 1048576 ∧ ad.1[k]? = some a ∧ x = .ref a) ∨ (1152921504606846976 ≤ n ∧ x = va_rf (zop ad.2 (n - 1152921504606846976)))
/-- a place on the tape: not below T, or not below a number; at most 200 -/
def zTw (T n : Nat) (i : Int32) : Prop := zi i ≤ 200 ∧ (n < 274877906946 → T ≤ zi i) ∧ (n = 274877906945 → zi i ≤ 199) ∧ (274877906946 ≤ n → n - 274877906946 ≤ zi i)
/-- a field's value -/
def zRepC [zCh] (ad : zA) (v : zV) (x : Value) : Prop := match v with
  | .inl n => ∃ i : Int32, x = .int i ∧ zIw n i ∧ (549755813888 < n → zi i = ad.2 n) ∧ (274877906944 ≤ n → n < 549755813888 → zTw (ad.2 20) n i)
  | .inr (.inl r) => ∃ o : Option Nat, x = va_rf o ∧ zRw ad r o
  | _ => False
theorem zRw_rep [zGh] {ad : zA} {w : Nat} {o : Option Nat} (h : zRw ad w o) : zRep ad (zvR w) (va_rf o) := by
  unfold zvR
  rcases h with ⟨h1, h2⟩ | ⟨h1, h2⟩
  · have hb : Nat.ble 549755813888 w = false := by
      cases q : Nat.ble 549755813888 w
      · rfl
      · exact absurd (Nat.le_of_ble_eq_true q) (Nat.not_le.mpr h1)
    rw [hb]
    exact ⟨o, rfl, h2⟩
  · rw [Nat.ble_eq_true_of_le h1]
    refine Or.inr ⟨Nat.le_add_right _ _, ?_⟩
    show va_rf o = va_rf (zop ad.2 (1152921504606846976 + w - 1152921504606846976))
    rw [Nat.add_sub_cancel_left, h2]
theorem zRepC_rep [zGh] [zCh] {ad : zA} {b : Bool} {w : Nat} {x : Value} (h : zRepC ad (cond b (zR w) (zI w)) x) (hw : w < 1099511627776) : zRep ad (cond b (zvR w) (zI w)) x := by
  cases b
  · obtain ⟨i, h1, h2, -⟩ := h
    exact ⟨i, h1, zIs_a h2.1 hw⟩
  · obtain ⟨o, rfl, h2⟩ := h
    exact zRw_rep h2
def zRepL [zGh] (ad : zA) : List zV → List Value → Prop
  | [], [] => True
  | v :: S, x :: st => zRep ad v x ∧ zRepL ad S st
  | _, _ => False
def zAI (len x : Nat) (f : Nat → Int32) : Prop := ∀ j, j < len → zIa (zwd 40 x j) (f j)
/-- longs: below 2^64 itself; 2^64 + 1: not 0 -/
def zAJ (len x : Nat) (f : Nat → Int64) : Prop := ∀ j, j < len → (zwd 72 x j < 18446744073709551616 → zj (f j) = zwd 72 x j) ∧ (zwd 72 x j = 18446744073709551617 → 1 ≤ zj (f j))
def zAR (ad : zA) (len x : Nat) (f : Nat → Option Nat) : Prop := ∀ j, j < len → zRw ad (zwd 40 x j) (f j)
def zFl [zCh] (ad : zA) (ci k w : Nat) (v : Value) : Prop := zRepC ad (cond (zisR (zfty ci k)) (zR w) (zI w)) v
def zN (ci : Nat) : Nat := match ci with
  | 0 => 8
  | 1 => 4
  | 2 => 15
  | 3 => 2
  | 4 => 16
  | 5 => 12
  | 6 => 2
  | 7 => 14
  | 8 => 8
  | _ => 63
/-- kinds: 0 ints, 1 booleans, 2 longs, 3 to 15 references, from 16 on objects -/
def zCell [zCh] (cA : Nat → ClassId) (ad : zA) (c : zC) (e : va_E) : Prop :=
  (c.1 < 2 ∧ c.2.1 < 2147483648 ∧ ∃ f : Nat → Int32, e = .inl (cA c.1, c.2.1, .inl f) ∧ zAI c.2.1 c.2.2 f) ∨
  (c.1 = 2 ∧ c.2.1 < 2147483648 ∧ ∃ f : Nat → Int64, e = .inl (cA 2, c.2.1, .inr (.inl f)) ∧ zAJ c.2.1 c.2.2 f) ∨
  (8 ≤ c.1 ∧ c.1 < 16 ∧ c.2.1 < 2147483648 ∧ ((c.1 < 12 ∧ ∃ f : Nat → Int32, e = .inl (cA 0, c.2.1, .inl f) ∧ zCK c.1 c.2.1 c.2.2 f) ∨ (c.1 = 12 ∧ ∃ f : Nat → Option Nat, e = .inl (cA 3, c.2.1, .inr (.inr (.inr (.inr f)))) ∧ zRs ad c.2.1 c.2.2 f))) ∨
  (3 ≤ c.1 ∧ c.1 < 8 ∧ c.2.1 < 2147483648 ∧ ∃ f : Nat → Option Nat, e = .inl (cA c.1, c.2.1, .inr (.inr (.inr (.inr f)))) ∧ zAR ad c.2.1 c.2.2 f) ∨
  (16 ≤ c.1 ∧ ∃ fs : List Value, e = .inr (c.1 - 16, fs) ∧ fs.length = zN (c.1 - 16) ∧ ∀ k v, fs[k]? = some v → zFl ad (c.1 - 16) k (zwd 40 c.2.2 k) v)
abbrev zad (cA : Nat → ClassId) (ws : va_W) : zA := (ws.map (fun q => q.1), cA)
def zHp [zCh] {d : Nat} (cA : Nat → ClassId) (h : zH d) (ws : va_W) : Prop := ws.length = h.2.1 ∧ h.2.1 ≤ 2 ^ d ∧ ∀ (i : Nat) (q : Nat × va_E), ws[i]? = some q → zCell cA (zad cA ws) (zget d h.1 i) q.2
def zLoc [zGh] (ad : zA) (nL : Nat) (L : List zV) (ls : Array Slot) : Prop := L.length = nL ∧ ∃ lv : List (Nat × Value), lv_has ls nL lv ∧ ∀ (i : Nat) (v : zV), L[i]? = some v → v = zU ∨ ∃ x : Value, (i, x) ∈ lv ∧ zRep ad v x
def zPre (a b : zA) : Prop := (∃ t, b.1 = a.1 ++ t) ∧ b.2 = a.2
/-- the array classes: [I [Z [J [[I [[J, of Shape, of Things, of Split -/
def zty (cA : Nat → ClassId) : List (ClassId × FieldType) := [(cA 0, .int), (cA 1, .boolean), (cA 2, .long), (cA 3, .array .int), (cA 4, .array .long), (cA 5, .object RX4), (cA 6, .object RX7), (cA 7, .object RX5)]
def zRm (fr mc ms : Nat) : Room := { frames := fr, cells := mc, slots := ms, locals := 64 * fr }
/-- the static arrays, which nothing writes -/
def zSt1 (C n : String) (tb : List Nat) (A : Nat → Prop) (U : State) (H : Heap) : Prop := ∃ t : Nat, va_Z C n "[I" (.ref t) A U H ∧ ∃ f : Nat → Value, va_T .int t 7 f A U H ∧ ∀ j v, tb[j]? = some v → ∃ i : Int32, f j = .int i ∧ zi i = v
abbrev ztb1 : List Nat := [1, 1, 2, 3, 5, 7, 11]
abbrev ztb2 : List Nat := [0, 1, 4294967295, 4294967295, 0, 4294967295, 1]
abbrev ztb3 : List Nat := [1, 1, 1, 2, 2, 4, 2]
def zStat (A : Nat → Prop) (U : State) (H : Heap) : Prop := zSt1 RX7 "PARTITIONS" ztb1 A U H ∧ zSt1 RX5 "ROOT_SUM" ztb2 A U H ∧ zSt1 RX5 "ROOT_COUNT" ztb3 A U H
/-- the words that stay as classes are linked, and those that want a word of their own -/
def ztbl : List Cond := lw_tbl.filter goodWord
def zNest : List (String × Nat × MethodName × String) := [("PrimeBlocks", 32, ⟨"PrimeBlocks$Tape", "<init>", "()V"⟩, "PrimeBlocks"), ("PrimeBlocks$Shape", 96, ⟨"PrimeBlocks", "factorialOf", "(I)I"⟩, "PrimeBlocks"), ("PrimeBlocks$Things", 31, ⟨"PrimeBlocks", "factorialOf", "(I)I"⟩, "PrimeBlocks"), ("PrimeBlocks$Things", 120, ⟨"PrimeBlocks", "greatestDivisor", "(JJ)J"⟩, "PrimeBlocks"), ("PrimeBlocks$Split", 92, ⟨"PrimeBlocks", "bit", "(Z)I"⟩, "PrimeBlocks"), ("PrimeBlocks$Blocks", 69, ⟨"PrimeBlocks", "bit", "(Z)I"⟩, "PrimeBlocks"), ("PrimeBlocks$Reader", 11, ⟨"PrimeBlocks$Fault", "<init>", "()V"⟩, "PrimeBlocks"), ("PrimeBlocks$Reader", 156, ⟨"PrimeBlocks", "isSlot", "(I)Z"⟩, "PrimeBlocks")]
/-- arrays of arrays: the printed names call this word, and the kit hasn't it -/
def va_AOA (ty : FieldType) (U : State) : Prop := (Cond.arrayOver (.array ty)).before #[] U = true
theorem va_AOA.use {ty : FieldType} {A : Array Value} {U : State} (h : va_AOA ty U) : (Cond.arrayOver (.array ty)).before A U = true := h
theorem va_AOA.moved {ty : FieldType} {u U : State} (hvm : u.vm.Alike U.vm) (h : va_AOA ty u) : va_AOA ty U := by
  have h1 : (Cond.arrayOver (.array ty)).before #[] (u.setVm U.vm) = true := by rw [Cond.arrayOver_setVmC hvm]; exact h
  exact h1
def zEx (U : State) : Prop := va_AO RX4 U ∧ va_AO RX7 U ∧ va_AO RX5 U ∧ va_AOA .int U ∧ va_AOA .long U ∧ (∀ q ∈ zNest, va_Nw (.methodLinkNest q.1 q.2.1 q.2.2.1 q.2.2.2) U) ∧ va_Nw (.castable "[I" "java/lang/Cloneable") U
theorem zEx_moved {s U : State} (hW : s.WarmedH U.vm) (h : zEx s) : zEx U := ⟨h.1.moved hW.alike, h.2.1.moved hW.alike, h.2.2.1.moved hW.alike, h.2.2.2.1.moved hW.alike, h.2.2.2.2.1.moved hW.alike, fun q hq => va_Nw.warmM hW (h.2.2.2.2.2.1 q hq), va_Nw.warmC hW h.2.2.2.2.2.2⟩
def zCx [zGh] (X : zM) (cA : Nat → ClassId) (D : va_G) (p : Program) (s : State) (m : MethodId) (args : Array Value) (meth : Method) (c : Code) (A : Nat → Prop) : Prop :=
  p.tables.exec = Jvm.exec ∧ c.code = X.2.1 ∧ c.maxLocals = X.2.2.1 ∧ s.vm.findClass X.1 = some m.cls ∧ (∀ w ∈ ztbl, w.before args s = true) ∧ va_K D zcl (zty cA) s ∧ (∀ q, s.heap.size ≤ q → A q) ∧ meth.sig.returnType = X.2.2.2.1 ∧ (meth.locks = false ∧ cA 20 = zg 0) ∧ meth.name = X.2.2.2.2 ∧ zStat A s s.heap ∧ zEx s
def zRel [zGh] [zCh] {d : Nat} (cA : Nat → ClassId) (D : va_G) (ad0 : zA) (A : Nat → Prop) (MC MS : Nat) (s : State) (nL : Nat) (L S : List zV) (h : zH d) (ls : Array Slot) (st : List Value) (H : Heap) (locs : List Loc) (cells slots : Nat) : Prop :=
  ∃ ws : va_W, zHp cA h ws ∧ zPre ad0 (zad cA ws) ∧ va_P D zcl ws H ∧ va_D A ws ∧ va_S A s.heap H locs ∧ zLoc (zad cA ws) nL L ls ∧ zRepL (zad cA ws) S st ∧ cells + h.2.2.1 ≤ MC ∧ slots + h.2.2.2 ≤ MS
def zQc {d : Nat} (P : zP d) (cA : Nat → ClassId) (D : va_G) (ad0 : zA) (A : Nat → Prop) : Array Value → State → Outcome → State → Prop := fun _ st oc t =>
  (∃ (_ : zCh) (r : zV) (h : zH d) (ws : va_W) (ov : Option Value), oc = .returned ov ∧ ((ov = none ∧ r = zU) ∨ ∃ x, ov = some x ∧ ∀ (_ : zGh), zRep (zad cA ws) r x) ∧ P r h = true ∧ zHp cA h ws ∧ zPre ad0 (zad cA ws) ∧ va_P D zcl ws t.heap ∧ va_D A ws) ∧ va_F A st t
def zSim [zGh] {d : Nat} (X : zM) (fr : Nat) (P : zP d) (pc : Nat) (k : zK d) : Prop :=
  ∀ (_ : zCh) (cA : Nat → ClassId) (D : va_G) (ad0 : zA) (A : Nat → Prop) (MC MS : Nat) (p : Program) (l : Launch) (e : Env) (s : State) (m : MethodId) (args : Array Value) (below : List Frame) (meth : Method) (c : Code) (ls : Array Slot) (st : List Value) (H : Heap) (locs : List Loc) (cells slots : Nat) (L S : List zV) (h : zH d),
    zCx X cA D p s m args meth c A → k L S h = true → zRel cA D ad0 A MC MS s X.2.2.1 L S h ls st H locs cells slots →
    W p l e (zRm fr MC MS) s m args below meth c H locs cells slots (MQ below (zQc P cA D ad0 A) args s MC MS A) (F0 m pc ls st)
/-! small laws -/
theorem zRf_mono {ad ad' : zA} (hp : zPre ad ad') {r : Nat} {o : Option Nat} (h : zRf ad r o) : zRf ad' r o := by
  rcases h with h | ⟨k, a, h1, h2, h3⟩
  · exact Or.inl h
  · obtain ⟨⟨t, ht⟩, -⟩ := hp
    refine Or.inr ⟨k, a, h1, ?_, h3⟩
    have hk : k < ad.1.length := (List.getElem?_eq_some_iff.mp h2).1
    rw [ht, List.getElem?_append_left hk]
    exact h2
theorem zRep_mono [zGh] {ad ad' : zA} (hp : zPre ad ad') {v : zV} {x : Value} (h : zRep ad v x) : zRep ad' v x := by
  match v, h with
  | .inl n, h => exact h
  | .inr (.inl r), ⟨o, h1, h2⟩ => exact ⟨o, h1, zRf_mono hp h2⟩
  | .inr (.inr (.inl n)), h => exact h
  | .inr (.inr (.inr n)), Or.inl ⟨h0, k, a, h1, h2, h3, h4⟩ =>
    obtain ⟨⟨t, ht⟩, -⟩ := hp
    have hk : k < ad.1.length := (List.getElem?_eq_some_iff.mp h3).1
    exact Or.inl ⟨h0, k, a, h1, h2, by rw [ht, List.getElem?_append_left hk]; exact h3, h4⟩
  | .inr (.inr (.inr n)), Or.inr ⟨h0, h1⟩ => exact Or.inr ⟨h0, by rw [hp.2]; exact h1⟩
theorem zRep_U [zGh] {ad : zA} {x : Value} (h : zRep ad zU x) : False := by
  rcases h with ⟨-, k, a, h1, h2, -⟩ | ⟨h1, -⟩
  · exact absurd h2 (Nat.not_lt_zero k)
  · exact absurd h1 (by decide)
theorem zRepL_mono [zGh] {ad ad' : zA} (hp : zPre ad ad') : ∀ {S : List zV} {st : List Value}, zRepL ad S st → zRepL ad' S st
  | [], [], _ => trivial
  | v :: S, x :: st, h => ⟨zRep_mono hp h.1, zRepL_mono hp h.2⟩
theorem zRw_mono {ad ad' : zA} (hp : zPre ad ad') {w : Nat} {o : Option Nat} (h : zRw ad w o) : zRw ad' w o := by
  rcases h with ⟨h1, h2⟩ | ⟨h1, h2⟩
  · exact Or.inl ⟨h1, zRf_mono hp h2⟩
  · exact Or.inr ⟨h1, by rw [hp.2]; exact h2⟩
theorem zRepC_mono [zCh] {ad ad' : zA} (hp : zPre ad ad') {v : zV} {x : Value} (h : zRepC ad v x) : zRepC ad' v x := by
  match v, h with
  | .inl n, ⟨i, h1, h2, h3⟩ => exact ⟨i, h1, h2, by rw [hp.2]; exact h3⟩
  | .inr (.inl r), ⟨o, h1, h2⟩ => exact ⟨o, h1, zRw_mono hp h2⟩
theorem zRs_mono {ad ad' : zA} (hp : zPre ad ad') {len x : Nat} {f : Nat → Option Nat} (h : zRs ad len x f) : zRs ad' len x f := by
  intro j hj
  obtain ⟨k, a, h1, h2, h3, h4⟩ := h j hj
  obtain ⟨⟨t, ht⟩, -⟩ := hp
  have hk : k < ad.1.length := (List.getElem?_eq_some_iff.mp h3).1
  exact ⟨k, a, h1, h2, by rw [ht, List.getElem?_append_left hk]; exact h3, h4⟩
theorem zCell_mono [zCh] {cA : Nat → ClassId} {ad ad' : zA} (hp : zPre ad ad') {c : zC} {e : va_E} (h : zCell cA ad c e) : zCell cA ad' c e := by
  rcases h with h | h | ⟨h1, h2, hl, h | ⟨h3, f, h4, h5⟩⟩ | ⟨h1, h2, hl, f, h3, h4⟩ | ⟨h1, fs, h2, h3, h4⟩
  · exact Or.inl h
  · exact Or.inr (Or.inl h)
  · exact Or.inr (Or.inr (Or.inl ⟨h1, h2, hl, Or.inl h⟩))
  · exact Or.inr (Or.inr (Or.inl ⟨h1, h2, hl, Or.inr ⟨h3, f, h4, zRs_mono hp h5⟩⟩))
  · exact Or.inr (Or.inr (Or.inr (Or.inl ⟨h1, h2, hl, f, h3, fun j hj => zRw_mono hp (h4 j hj)⟩)))
  · exact Or.inr (Or.inr (Or.inr (Or.inr ⟨h1, fs, h2, h3, fun k v hv => zRepC_mono hp (h4 k v hv)⟩)))
theorem zPre_refl (a : zA) : zPre a a := ⟨⟨[], by simp⟩, rfl⟩
theorem zPre_trans {a b c : zA} (h1 : zPre a b) (h2 : zPre b c) : zPre a c := by
  obtain ⟨⟨t, ht⟩, e1⟩ := h1
  obtain ⟨⟨u, hu⟩, e2⟩ := h2
  exact ⟨⟨t ++ u, by rw [hu, ht]; simp⟩, e2.trans e1⟩
/-- popping -/
noncomputable def zpI (S : List zV) (k : Nat → List zV → Bool) : Bool := List.rec (motive := fun _ => Bool) false (fun v t _ => Sum.rec (motive := fun _ => Bool) (fun n => k n t) (fun _ => false) v) S
noncomputable def zpR (S : List zV) (k : Nat → List zV → Bool) : Bool := List.rec (motive := fun _ => Bool) false (fun v t _ => Sum.rec (motive := fun _ => Bool) (fun _ => false) (fun u => Sum.rec (motive := fun _ => Bool) (fun n => k n t) (fun _ => false) u) v) S
noncomputable def zpL (S : List zV) (k : Nat → List zV → Bool) : Bool := List.rec (motive := fun _ => Bool) false (fun v t _ => Sum.rec (motive := fun _ => Bool) (fun _ => false) (fun u => Sum.rec (motive := fun _ => Bool) (fun _ => false) (fun w => Sum.rec (motive := fun _ => Bool) (fun n => k n t) (fun _ => false) w) u) v) S
theorem zpI_t {S : List zV} {k : Nat → List zV → Bool} (h : zpI S k = true) : ∃ n t, S = zI n :: t ∧ k n t = true := by
  match S, h with
  | .inl n :: t, h => exact ⟨n, t, rfl, h⟩
theorem zpR_t {S : List zV} {k : Nat → List zV → Bool} (h : zpR S k = true) : ∃ n t, S = zR n :: t ∧ k n t = true := by
  match S, h with
  | .inr (.inl n) :: t, h => exact ⟨n, t, rfl, h⟩
theorem zpL_t {S : List zV} {k : Nat → List zV → Bool} (h : zpL S k = true) : ∃ n t, S = zL n :: t ∧ k n t = true := by
  match S, h with
  | .inr (.inr (.inl n)) :: t, h => exact ⟨n, t, rfl, h⟩
theorem zRepL_I [zGh] {ad : zA} {n : Nat} {S : List zV} {st : List Value} (h : zRepL ad (zI n :: S) st) : ∃ (i : Int32) (st' : List Value), st = .int i :: st' ∧ zIs n i ∧ zRepL ad S st' := by
  match st, h with
  | x :: st', ⟨⟨i, h1, h2⟩, h3⟩ => exact ⟨i, st', by rw [h1], h2, h3⟩
theorem zRepL_R [zGh] {ad : zA} {n : Nat} {S : List zV} {st : List Value} (h : zRepL ad (zR n :: S) st) : ∃ (o : Option Nat) (st' : List Value), st = va_rf o :: st' ∧ zRf ad n o ∧ zRepL ad S st' := by
  match st, h with
  | x :: st', ⟨⟨i, h1, h2⟩, h3⟩ => exact ⟨i, st', by rw [h1], h2, h3⟩
theorem zRepL_L [zGh] {ad : zA} {n : Nat} {S : List zV} {st : List Value} (h : zRepL ad (zL n :: S) st) : ∃ (i : Int64) (st' : List Value), st = .long i :: st' ∧ zJs n i ∧ zRepL ad S st' := by
  match st, h with
  | x :: st', ⟨⟨i, h1, h2⟩, h3⟩ => exact ⟨i, st', by rw [h1], h2, h3⟩
/-- a local's value, a local set -/
noncomputable def znth (n : Nat) : List zV → (zV → Bool) → Bool := Nat.rec (motive := fun _ => List zV → (zV → Bool) → Bool) (fun L k => List.rec (motive := fun _ => Bool) false (fun v _ _ => k v) L) (fun _ r L k => List.rec (motive := fun _ => Bool) false (fun _ t _ => r t k) L) n
theorem znth_t : ∀ (n : Nat) {L : List zV} {k : zV → Bool}, znth n L k = true → ∃ v, L[n]? = some v ∧ k v = true
  | 0, [], _, h => by cases h
  | 0, v :: L, k, h => ⟨v, rfl, h⟩
  | n + 1, [], _, h => by cases h
  | n + 1, v :: L, k, h => by
    obtain ⟨w, h1, h2⟩ := znth_t n (L := L) (k := k) h
    exact ⟨w, by simpa using h1, h2⟩
/-- what lies ahead of a stored local: a long there is gone -/
noncomputable def zfix (v : zV) (k : zV → Bool) : Bool := Sum.rec (motive := fun _ => Bool) (fun n => k (zI n)) (fun u => Sum.rec (motive := fun _ => Bool) (fun n => k (zR n)) (fun w => Sum.rec (motive := fun _ => Bool) (fun _ => k zU) (fun m => k (zW m)) w) u) v
noncomputable def zst (n : Nat) (x : zV) : List zV → (List zV → Bool) → Bool := Nat.rec (motive := fun _ => List zV → (List zV → Bool) → Bool) (fun L k => List.rec (motive := fun _ => Bool) false (fun _ t _ => k (x :: t)) L)
  (fun n r L k => List.rec (motive := fun _ => Bool) false (fun v t _ => Nat.rec (motive := fun _ => Bool) (zfix v (fun w => r t (fun t => k (w :: t)))) (fun _ _ => r t (fun t => k (v :: t))) n) L) n
/-- the list behind a store at n -/
def zsta (n : Nat) (x : zV) (L : List zV) : Nat → Option zV := fun i => if i = n then some x else if i + 1 = n then (L[i]?).map (fun v => match v with
  | .inl a => zI a
  | .inr (.inl a) => zR a
  | .inr (.inr (.inr m)) => zW m
  | _ => zU) else L[i]?
theorem zst_t : ∀ (n : Nat) {x : zV} {L : List zV} {k : List zV → Bool}, zst n x L k = true → ∃ L', L'.length = L.length ∧ n < L.length ∧ (∀ i, L'[i]? = zsta n x L i) ∧ k L' = true
  | 0, x, [], _, h => by cases h
  | 0, x, v :: L, k, h => ⟨x :: L, rfl, by simp, fun i => by cases i <;> simp [zsta], h⟩
  | n + 1, x, [], _, h => by cases h
  | 1, x, v :: L, k, h => by
    have h' : zfix v (fun w => zst 0 x L (fun t => k (w :: t))) = true := h
    have key : ∃ w : zV, (∀ L : List zV, some w = zsta 1 x (v :: L) 0) ∧ zst 0 x L (fun t => k (w :: t)) = true := by
      match v, h' with
      | .inl a, h' => exact ⟨zI a, fun L => by simp [zsta], h'⟩
      | .inr (.inl a), h' => exact ⟨zR a, fun L => by simp [zsta], h'⟩
      | .inr (.inr (.inl a)), h' => exact ⟨zU, fun L => by simp [zsta], h'⟩
      | .inr (.inr (.inr m)), h' => exact ⟨zW m, fun L => by simp [zsta], h'⟩
    obtain ⟨w, hw, h2⟩ := key
    obtain ⟨L', h3, h4, h5, h6⟩ := zst_t 0 h2
    refine ⟨w :: L', by simp [h3], by simp; omega, fun i => ?_, h6⟩
    cases i with
    | zero => simpa using hw L
    | succ i =>
      rw [List.getElem?_cons_succ, h5 i]
      simp [zsta]
  | n + 2, x, v :: L, k, h => by
    have h' : zst (n + 1) x L (fun t => k (v :: t)) = true := h
    obtain ⟨L', h3, h4, h5, h6⟩ := zst_t (n + 1) h'
    refine ⟨v :: L', by simp [h3], by simp; omega, fun i => ?_, h6⟩
    cases i with
    | zero => simp [zsta]
    | succ i =>
      rw [List.getElem?_cons_succ, h5 i]
      simp [zsta]
end
section
/-! numbers: what the machine of numbers works out is what the machine does; 4294967296 (18446744073709551616) stands for a number that isn't known -/
theorem zle_lor {a b w : Nat} (h : Nat.ble (2 ^ w) (Nat.lor a b) = false) : a < 2 ^ w ∧ b < 2 ^ w := zlor_lt (Nat.lt_of_not_le (fun q => by rw [Nat.ble_eq_true_of_le q] at h; cases h))
theorem zle32 {a b : Nat} (h : Nat.ble 4294967296 (Nat.lor a b) = false) : a < 4294967296 ∧ b < 4294967296 := zle_lor (w := 32) h
theorem zle31 {a b : Nat} (h : Nat.ble 2147483648 (Nat.lor a b) = false) : a < 2147483648 ∧ b < 2147483648 := zle_lor (w := 31) h
theorem zle64 {a b : Nat} (h : Nat.ble 18446744073709551616 (Nat.lor a b) = false) : a < 18446744073709551616 ∧ b < 18446744073709551616 := zle_lor (w := 64) h
theorem zble_f {a b : Nat} (h : Nat.ble a b = false) : b < a := Nat.lt_of_not_le (fun q => by rw [Nat.ble_eq_true_of_le q] at h; cases h)
def zk2 (a b : Nat) (v : Nat) : Nat := cond (Nat.ble 4294967296 (Nat.lor a b)) 4294967296 v
def zk2j (a b : Nat) (v : Nat) : Nat := cond (Nat.ble 18446744073709551616 (Nat.lor a b)) 18446744073709551616 v
theorem zk2_ok {a b v : Nat} {x y : Int32} {r : Int32} (hx : a < 4294967296 → zi x = a) (hy : b < 4294967296 → zi y = b) (h : zi x = a → zi y = b → zi r = v) : zk2 a b v < 4294967296 → zi r = zk2 a b v := by
  unfold zk2
  cases hb : Nat.ble 4294967296 (Nat.lor a b)
  · intro _
    obtain ⟨h1, h2⟩ := zle32 hb
    exact h (hx h1) (hy h2)
  · intro q
    exact absurd q (Nat.lt_irrefl _)
theorem zk2j_ok {a b v : Nat} {x y : Int64} {r : Int64} (hx : a < 18446744073709551616 → zj x = a) (hy : b < 18446744073709551616 → zj y = b) (h : zj x = a → zj y = b → zj r = v) : zk2j a b v < 18446744073709551616 → zj r = zk2j a b v := by
  unfold zk2j
  cases hb : Nat.ble 18446744073709551616 (Nat.lor a b)
  · intro _
    obtain ⟨h1, h2⟩ := zle64 hb
    exact h (hx h1) (hy h2)
  · intro q
    exact absurd q (Nat.lt_irrefl _)
abbrev zadd (a b : Nat) : Nat := zk2 a b (Nat.mod (Nat.add a b) 4294967296)
abbrev zsub (a b : Nat) : Nat := zk2 a b (Nat.mod (Nat.add a (Nat.sub 4294967296 b)) 4294967296)
abbrev zmul (a b : Nat) : Nat := zk2 a b (Nat.mod (Nat.mul a b) 4294967296)
abbrev zand (a b : Nat) : Nat := zk2 a b (Nat.land a b)
abbrev zor (a b : Nat) : Nat := zk2 a b (Nat.lor a b)
abbrev zxor (a b : Nat) : Nat := zk2 a b (Nat.xor a b)
theorem zadd_ok {a b : Nat} {x y : Int32} (hx : a < 4294967296 → zi x = a) (hy : b < 4294967296 → zi y = b) : zadd a b < 4294967296 → zi (x + y) = zadd a b := zk2_ok hx hy (fun h1 h2 => by rw [zi_add, h1, h2]; rfl)
theorem zsub_ok {a b : Nat} {x y : Int32} (hx : a < 4294967296 → zi x = a) (hy : b < 4294967296 → zi y = b) : zsub a b < 4294967296 → zi (x - y) = zsub a b := zk2_ok hx hy (fun h1 h2 => by rw [zi_sub, h1, h2]; rfl)
theorem zmul_ok {a b : Nat} {x y : Int32} (hx : a < 4294967296 → zi x = a) (hy : b < 4294967296 → zi y = b) : zmul a b < 4294967296 → zi (x * y) = zmul a b := zk2_ok hx hy (fun h1 h2 => by rw [zi_mul, h1, h2]; rfl)
theorem zand_ok {a b : Nat} {x y : Int32} (hx : a < 4294967296 → zi x = a) (hy : b < 4294967296 → zi y = b) : zand a b < 4294967296 → zi (x &&& y) = zand a b := zk2_ok hx hy (fun h1 h2 => by rw [zi_and, h1, h2])
theorem zor_ok {a b : Nat} {x y : Int32} (hx : a < 4294967296 → zi x = a) (hy : b < 4294967296 → zi y = b) : zor a b < 4294967296 → zi (x ||| y) = zor a b := zk2_ok hx hy (fun h1 h2 => by rw [zi_or, h1, h2])
theorem zxor_ok {a b : Nat} {x y : Int32} (hx : a < 4294967296 → zi x = a) (hy : b < 4294967296 → zi y = b) : zxor a b < 4294967296 → zi (x ^^^ y) = zxor a b := zk2_ok hx hy (fun h1 h2 => by rw [zi_xor, h1, h2])
abbrev zaddj (a b : Nat) : Nat := zk2j a b (Nat.mod (Nat.add a b) 18446744073709551616)
abbrev zsubj (a b : Nat) : Nat := zk2j a b (Nat.mod (Nat.add a (Nat.sub 18446744073709551616 b)) 18446744073709551616)
abbrev zmulj (a b : Nat) : Nat := zk2j a b (Nat.mod (Nat.mul a b) 18446744073709551616)
theorem zaddj_ok {a b : Nat} {x y : Int64} (hx : a < 18446744073709551616 → zj x = a) (hy : b < 18446744073709551616 → zj y = b) : zaddj a b < 18446744073709551616 → zj (x + y) = zaddj a b := zk2j_ok hx hy (fun h1 h2 => by rw [zj_add, h1, h2]; rfl)
theorem zsubj_ok {a b : Nat} {x y : Int64} (hx : a < 18446744073709551616 → zj x = a) (hy : b < 18446744073709551616 → zj y = b) : zsubj a b < 18446744073709551616 → zj (x - y) = zsubj a b := zk2j_ok hx hy (fun h1 h2 => by rw [zj_sub, h1, h2]; rfl)
theorem zmulj_ok {a b : Nat} {x y : Int64} (hx : a < 18446744073709551616 → zj x = a) (hy : b < 18446744073709551616 → zj y = b) : zmulj a b < 18446744073709551616 → zj (x * y) = zmulj a b := zk2j_ok hx hy (fun h1 h2 => by rw [zj_mul, h1, h2]; rfl)
/-- signs -/
def zneg (a : Nat) : Nat := cond (Nat.ble 4294967296 a) 4294967296 (Nat.mod (Nat.sub 4294967296 a) 4294967296)
def znegj (a : Nat) : Nat := cond (Nat.ble 18446744073709551616 a) 18446744073709551616 (Nat.mod (Nat.sub 18446744073709551616 a) 18446744073709551616)
theorem zi_neg (x : Int32) : zi (-x) = (4294967296 - zi x) % 4294967296 := by
  show (-x).toBitVec.toNat = _
  rw [Int32.toBitVec_neg, BitVec.toNat_neg]
  rfl
theorem zj_neg (x : Int64) : zj (-x) = (18446744073709551616 - zj x) % 18446744073709551616 := by
  show (-x).toBitVec.toNat = _
  rw [Int64.toBitVec_neg, BitVec.toNat_neg]
  rfl
theorem zneg_ok {a : Nat} {x : Int32} (hx : a < 4294967296 → zi x = a) : zneg a < 4294967296 → zi (-x) = zneg a := by
  unfold zneg
  cases hb : Nat.ble 4294967296 a
  · intro _
    rw [zi_neg, hx (zble_f hb)]
    rfl
  · intro q
    exact absurd q (Nat.lt_irrefl _)
theorem znegj_ok {a : Nat} {x : Int64} (hx : a < 18446744073709551616 → zj x = a) : znegj a < 18446744073709551616 → zj (-x) = znegj a := by
  unfold znegj
  cases hb : Nat.ble 18446744073709551616 a
  · intro _
    rw [zj_neg, hx (zble_f hb)]
    rfl
  · intro q
    exact absurd q (Nat.lt_irrefl _)
theorem zi_zero {x : Int32} : zi x = 0 ↔ x = 0 := ⟨fun h => zi_inj (by rw [h]; rfl), fun h => by rw [h]; rfl⟩
theorem zj_zero {x : Int64} : zj x = 0 ↔ x = 0 := ⟨fun h => zj_inj (by rw [h]; rfl), fun h => by rw [h]; rfl⟩
/-- quotients: of numbers that aren't below 0 alone, else not known -/
def zdiv (a b : Nat) : Nat := cond (Nat.ble 2147483648 (Nat.lor a b)) 4294967296 (Nat.div a b)
def zrem (a b : Nat) : Nat := cond (Nat.ble 2147483648 (Nat.lor a b)) 4294967296 (Nat.mod a b)
theorem zi_div {x y : Int32} (hx : zi x < 2147483648) (hy : zi y < 2147483648) : zi (x / y) = zi x / zi y := by
  show (x / y).toBitVec.toNat = _
  rw [Int32.toBitVec_div]
  have m1 : x.toBitVec.msb = false := by rw [BitVec.msb_eq_decide]; exact decide_eq_false (by show ¬ 2147483648 ≤ zi x; omega)
  have m2 : y.toBitVec.msb = false := by rw [BitVec.msb_eq_decide]; exact decide_eq_false (by show ¬ 2147483648 ≤ zi y; omega)
  rw [BitVec.sdiv_eq, m1, m2]
  show (x.toBitVec.udiv y.toBitVec).toNat = _
  rw [BitVec.udiv_eq, BitVec.toNat_udiv]
  rfl
theorem zdiv_ok {a b : Nat} {x y : Int32} (hx : a < 4294967296 → zi x = a) (hy : b < 4294967296 → zi y = b) : zdiv a b < 4294967296 → zi (x / y) = zdiv a b := by
  unfold zdiv
  cases hb : Nat.ble 2147483648 (Nat.lor a b)
  · intro _
    obtain ⟨h1, h2⟩ := zle31 hb
    have e1 := hx (by omega)
    have e2 := hy (by omega)
    rw [zi_div (by omega) (by omega), e1, e2]
    rfl
  · intro q
    exact absurd q (Nat.lt_irrefl _)
theorem zrem_ok {a b : Nat} {x y : Int32} (hx : a < 4294967296 → zi x = a) (hy : b < 4294967296 → zi y = b) : zrem a b < 4294967296 → zi (x - x / y * y) = zrem a b := by
  unfold zrem
  cases hb : Nat.ble 2147483648 (Nat.lor a b)
  · intro _
    obtain ⟨h1, h2⟩ := zle31 hb
    have e1 := hx (by omega)
    have e2 := hy (by omega)
    rw [zi_sub, zi_mul, zi_div (by omega) (by omega), e1, e2]
    show _ = a % b
    have h3 : a / b * b ≤ a := Nat.div_mul_le_self a b
    have h4 : a % b + b * (a / b) = a := Nat.mod_add_div a b
    rw [Nat.mul_comm b] at h4
    rw [Nat.mod_eq_of_lt (show a / b * b < 4294967296 by omega)]
    omega
  · intro q
    exact absurd q (Nat.lt_irrefl _)
/-- shifts by less than 32 -/
def zshl (a b : Nat) : Nat := cond (Nat.ble 4294967296 a) 4294967296 (cond (Nat.ble 32 b) 4294967296 (Nat.mod (Nat.shiftLeft a b) 4294967296))
def zshr (a b : Nat) : Nat := cond (Nat.ble 2147483648 a) 4294967296 (cond (Nat.ble 32 b) 4294967296 (Nat.shiftRight a b))
def zushr (a b : Nat) : Nat := cond (Nat.ble 4294967296 a) 4294967296 (cond (Nat.ble 32 b) 4294967296 (Nat.shiftRight a b))
theorem zsm : ∀ n, n < 32 → ((Int32.ofNat n &&& 31).toBitVec.smod 32).toNat = n := by decide +kernel
theorem zsu : ∀ n, n < 32 → (((Int32.ofNat n).toUInt32 &&& Int32.toUInt32 31).toBitVec % 32).toNat = n := by decide +kernel
theorem zi_ofNat {n : Nat} (h : n < 4294967296) : zi (Int32.ofNat n) = n := by
  show (BitVec.ofNat 32 n).toNat = n
  rw [BitVec.toNat_ofNat]
  exact Nat.mod_eq_of_lt h
theorem zi_of {y : Int32} {n : Nat} (h : zi y = n) : y = Int32.ofNat n := zi_inj (by rw [h, zi_ofNat (by have := zi_lt y; omega)])
theorem zshl_ok {a b : Nat} {x y : Int32} (hx : a < 4294967296 → zi x = a) (hy : b < 4294967296 → zi y = b) : zshl a b < 4294967296 → zi (x <<< (y &&& 31)) = zshl a b := by
  unfold zshl
  cases hb : Nat.ble 4294967296 a
  · cases hc : Nat.ble 32 b
    · intro _
      have h2 : b < 32 := zble_f hc
      have e1 := hx (zble_f hb)
      rw [zi_of (hy (by omega))]
      show (x.toBitVec <<< ((Int32.ofNat b &&& 31).toBitVec.smod 32).toNat).toNat = _
      rw [zsm b h2, BitVec.toNat_shiftLeft]
      show (zi x <<< b) % 2 ^ 32 = _
      rw [e1]
      rfl
    · intro q
      exact absurd q (Nat.lt_irrefl _)
  · intro q
    exact absurd q (Nat.lt_irrefl _)
theorem zshr_ok {a b : Nat} {x y : Int32} (hx : a < 4294967296 → zi x = a) (hy : b < 4294967296 → zi y = b) : zshr a b < 4294967296 → zi (x >>> (y &&& 31)) = zshr a b := by
  unfold zshr
  cases hb : Nat.ble 2147483648 a
  · cases hc : Nat.ble 32 b
    · intro _
      have h2 : b < 32 := zble_f hc
      have h1 : a < 2147483648 := zble_f hb
      have e1 := hx (by omega)
      rw [zi_of (hy (by omega))]
      show (x.toBitVec.sshiftRight ((Int32.ofNat b &&& 31).toBitVec.smod 32).toNat).toNat = _
      have m1 : x.toBitVec.msb = false := by rw [BitVec.msb_eq_decide]; exact decide_eq_false (by show ¬ 2147483648 ≤ zi x; omega)
      rw [zsm b h2, BitVec.sshiftRight_eq_of_msb_false m1, BitVec.toNat_ushiftRight]
      show zi x >>> b = _
      rw [e1]
      rfl
    · intro q
      exact absurd q (Nat.lt_irrefl _)
  · intro q
    exact absurd q (Nat.lt_irrefl _)
theorem zushr_ok {a b : Nat} {x y : Int32} (hx : a < 4294967296 → zi x = a) (hy : b < 4294967296 → zi y = b) : zushr a b < 4294967296 → zi ((x.toUInt32 >>> (y.toUInt32 &&& Int32.toUInt32 31)).toInt32) = zushr a b := by
  unfold zushr
  cases hb : Nat.ble 4294967296 a
  · cases hc : Nat.ble 32 b
    · intro _
      have h2 : b < 32 := zble_f hc
      have e1 := hx (zble_f hb)
      rw [zi_of (hy (by omega))]
      show (x.toUInt32.toBitVec >>> (((Int32.ofNat b).toUInt32 &&& Int32.toUInt32 31).toBitVec % 32).toNat).toNat = _
      rw [zsu b h2, BitVec.toNat_ushiftRight]
      show zi x >>> b = _
      rw [e1]
      rfl
    · intro q
      exact absurd q (Nat.lt_irrefl _)
  · intro q
    exact absurd q (Nat.lt_irrefl _)
/-- int to long and back -/
def zi2l (a : Nat) : Nat := cond (Nat.ble 2147483648 a) (cond (Nat.ble 4294967296 a) 18446744073709551616 (Nat.add a 18446744069414584320)) a
def zl2i (a : Nat) : Nat := cond (Nat.ble 18446744073709551616 a) 4294967296 (Nat.mod a 4294967296)
theorem zi_cases (i : Int32) : (zi i < 2147483648 ∧ i.toInt = (zi i : Int)) ∨ (2147483648 ≤ zi i ∧ i.toInt = (zi i : Int) - 4294967296) := by
  have h := zi_toInt i
  by_cases q : zi i < 2147483648
  · rw [if_pos q] at h; exact Or.inl ⟨q, h⟩
  · rw [if_neg q] at h; exact Or.inr ⟨Nat.le_of_not_lt q, h⟩
theorem zj_cases (i : Int64) : (zj i < 9223372036854775808 ∧ i.toInt = (zj i : Int)) ∨ (9223372036854775808 ≤ zj i ∧ i.toInt = (zj i : Int) - 18446744073709551616) := by
  have h := zj_toInt i
  by_cases q : zj i < 9223372036854775808
  · rw [if_pos q] at h; exact Or.inl ⟨q, h⟩
  · rw [if_neg q] at h; exact Or.inr ⟨Nat.le_of_not_lt q, h⟩
theorem znmod (a b c : Nat) : Nat.mod (Nat.add a b) c = (a + b) % c := rfl
theorem zi2l_ok {a : Nat} {x : Int32} (hx : a < 4294967296 → zi x = a) : zi2l a < 18446744073709551616 → zj x.toInt64 = zi2l a := by
  have h0 : x.toInt64.toInt = x.toInt := Int32.toInt_toInt64 x
  have h3 := zj_lt x.toInt64
  have h4 := zi_lt x
  unfold zi2l
  cases hb : Nat.ble 2147483648 a
  · intro _
    have h1 : a < 2147483648 := zble_f hb
    have e1 := hx (by omega)
    show zj x.toInt64 = a
    rcases zi_cases x with ⟨c1, c2⟩ | ⟨c1, c2⟩ <;> rcases zj_cases x.toInt64 with ⟨d1, d2⟩ | ⟨d1, d2⟩ <;> omega
  · have h1 : 2147483648 ≤ a := Nat.le_of_ble_eq_true hb
    cases hc : Nat.ble 4294967296 a
    · intro _
      have e1 := hx (zble_f hc)
      have g : zj x.toInt64 = a + 18446744069414584320 := by
        rcases zi_cases x with ⟨c1, c2⟩ | ⟨c1, c2⟩ <;> rcases zj_cases x.toInt64 with ⟨d1, d2⟩ | ⟨d1, d2⟩ <;> omega
      exact g
    · intro q
      exact absurd q (Nat.lt_irrefl _)
theorem zl2i_ok {a : Nat} {x : Int64} (hx : a < 18446744073709551616 → zj x = a) : zl2i a < 4294967296 → zi x.toInt32 = zl2i a := by
  unfold zl2i
  cases hb : Nat.ble 18446744073709551616 a
  · intro _
    have e1 := hx (zble_f hb)
    show x.toInt32.toBitVec.toNat = _
    rw [Int64.toBitVec_toInt32, BitVec.signExtend_eq_setWidth_of_le _ (by decide), BitVec.toNat_setWidth]
    show zj x % 4294967296 = _
    rw [e1]
    rfl
  · intro q
    exact absurd q (Nat.lt_irrefl _)
/-- comparing -/
def zlei (a b : Nat) : Bool := cond (Nat.ble 2147483648 (Nat.lor a b)) (Nat.ble (Nat.mod (Nat.add a 2147483648) 4294967296) (Nat.mod (Nat.add b 2147483648) 4294967296)) (Nat.ble a b)
def zlej (a b : Nat) : Bool := Nat.ble (Nat.mod (Nat.add a 9223372036854775808) 18446744073709551616) (Nat.mod (Nat.add b 9223372036854775808) 18446744073709551616)
theorem zble_iff {a b : Nat} : Nat.ble a b = true ↔ a ≤ b := ⟨Nat.le_of_ble_eq_true, Nat.ble_eq_true_of_le⟩
theorem zlei_ok {x y : Int32} : zlei (zi x) (zi y) = true ↔ x ≤ y := by
  rw [Int32.le_iff_toInt_le]
  have h1 := zi_lt x
  have h2 := zi_lt y
  unfold zlei
  cases hb : Nat.ble 2147483648 (Nat.lor (zi x) (zi y))
  · obtain ⟨g1, g2⟩ := zle31 hb
    rw [cond_false, zble_iff]
    rcases zi_cases x with ⟨c1, c2⟩ | ⟨c1, c2⟩ <;> rcases zi_cases y with ⟨d1, d2⟩ | ⟨d1, d2⟩ <;> omega
  · rw [cond_true, zble_iff, znmod, znmod]
    rcases zi_cases x with ⟨c1, c2⟩ | ⟨c1, c2⟩ <;> rcases zi_cases y with ⟨d1, d2⟩ | ⟨d1, d2⟩ <;> omega
theorem zlej_ok {x y : Int64} : zlej (zj x) (zj y) = true ↔ x ≤ y := by
  rw [Int64.le_iff_toInt_le]
  have h1 := zj_lt x
  have h2 := zj_lt y
  unfold zlej
  rw [zble_iff, znmod, znmod]
  rcases zj_cases x with ⟨c1, c2⟩ | ⟨c1, c2⟩ <;> rcases zj_cases y with ⟨d1, d2⟩ | ⟨d1, d2⟩ <;> omega
def zlcmp (a b : Nat) : Nat := cond (Nat.ble 18446744073709551616 (Nat.lor a b)) 4294967296 (cond (Nat.beq a b) 0 (cond (zlej a b) 4294967295 1))
theorem zi_m1 : zi (-1 : Int32) = 4294967295 := by decide
theorem zi_p1 : zi (1 : Int32) = 1 := by decide
theorem zi_z : zi (0 : Int32) = 0 := by decide
theorem zlcmp_in (x y : Int64) : zi (lg_cmp x y) = cond (Nat.beq (zj x) (zj y)) 0 (cond (zlej (zj x) (zj y)) 4294967295 1) := by
  unfold lg_cmp
  cases hc : Nat.beq (zj x) (zj y)
  · have hne : ¬ x = y := fun q => by rw [q, Nat.beq_refl] at hc; cases hc
    cases hd : zlej (zj x) (zj y)
    · have h3 : ¬ x ≤ y := fun q => by rw [zlej_ok.mpr q] at hd; cases hd
      rw [if_pos (Int64.not_le.mp h3), cond_false, cond_false]
      exact zi_p1
    · have h3 : x ≤ y := zlej_ok.mp hd
      rw [if_neg (Int64.not_lt.mpr h3), if_neg hne, cond_false, cond_true]
      exact zi_m1
  · have he : x = y := zj_inj (Nat.eq_of_beq_eq_true hc)
    rw [he, if_neg Int64.lt_irrefl, if_pos rfl, cond_true]
    exact zi_z
theorem zlcmp_ok {a b : Nat} {x y : Int64} (hx : a < 18446744073709551616 → zj x = a) (hy : b < 18446744073709551616 → zj y = b) : zlcmp a b < 4294967296 → zi (lg_cmp x y) = zlcmp a b := by
  unfold zlcmp
  cases hb : Nat.ble 18446744073709551616 (Nat.lor a b)
  · intro _
    obtain ⟨h1, h2⟩ := zle64 hb
    rw [zlcmp_in, hx h1, hy h2, cond_false]
  · rw [cond_true]
    intro q
    exact absurd q (Nat.lt_irrefl _)
/-- longs' quotients, likewise -/
def zdivj (a b : Nat) : Nat := cond (Nat.ble 9223372036854775808 (Nat.lor a b)) 18446744073709551616 (Nat.div a b)
def zremj (a b : Nat) : Nat := cond (Nat.ble 9223372036854775808 (Nat.lor a b)) 18446744073709551616 (Nat.mod a b)
theorem zle63 {a b : Nat} (h : Nat.ble 9223372036854775808 (Nat.lor a b) = false) : a < 9223372036854775808 ∧ b < 9223372036854775808 := zle_lor (w := 63) h
theorem zj_div {x y : Int64} (hx : zj x < 9223372036854775808) (hy : zj y < 9223372036854775808) : zj (x / y) = zj x / zj y := by
  show (x / y).toBitVec.toNat = _
  rw [Int64.toBitVec_div]
  have m1 : x.toBitVec.msb = false := by rw [BitVec.msb_eq_decide]; exact decide_eq_false (by show ¬ 9223372036854775808 ≤ zj x; omega)
  have m2 : y.toBitVec.msb = false := by rw [BitVec.msb_eq_decide]; exact decide_eq_false (by show ¬ 9223372036854775808 ≤ zj y; omega)
  rw [BitVec.sdiv_eq, m1, m2]
  show (x.toBitVec.udiv y.toBitVec).toNat = _
  rw [BitVec.udiv_eq, BitVec.toNat_udiv]
  rfl
theorem zdivj_ok {a b : Nat} {x y : Int64} (hx : a < 18446744073709551616 → zj x = a) (hy : b < 18446744073709551616 → zj y = b) : zdivj a b < 18446744073709551616 → zj (x / y) = zdivj a b := by
  unfold zdivj
  cases hb : Nat.ble 9223372036854775808 (Nat.lor a b)
  · intro _
    obtain ⟨h1, h2⟩ := zle63 hb
    have e1 := hx (by omega)
    have e2 := hy (by omega)
    rw [zj_div (by omega) (by omega), e1, e2]
    rfl
  · intro q
    exact absurd q (Nat.lt_irrefl _)
theorem zremj_ok {a b : Nat} {x y : Int64} (hx : a < 18446744073709551616 → zj x = a) (hy : b < 18446744073709551616 → zj y = b) : zremj a b < 18446744073709551616 → zj (x - x / y * y) = zremj a b := by
  unfold zremj
  cases hb : Nat.ble 9223372036854775808 (Nat.lor a b)
  · intro _
    obtain ⟨h1, h2⟩ := zle63 hb
    have e1 := hx (by omega)
    have e2 := hy (by omega)
    rw [zj_sub, zj_mul, zj_div (by omega) (by omega), e1, e2]
    show _ = a % b
    have h3 : a / b * b ≤ a := Nat.div_mul_le_self a b
    have h4 : a % b + b * (a / b) = a := Nat.mod_add_div a b
    rw [Nat.mul_comm b] at h4
    rw [Nat.mod_eq_of_lt (show a / b * b < 18446744073709551616 by omega)]
    omega
  · intro q
    exact absurd q (Nat.lt_irrefl _)
/-- no code but of numbers known and not known -/
theorem zk2_le {a b v : Nat} (h : a < 4294967296 → b < 4294967296 → v ≤ 4294967296) : zk2 a b v ≤ 4294967296 := by
  unfold zk2
  cases hb : Nat.ble 4294967296 (Nat.lor a b)
  · obtain ⟨h1, h2⟩ := zle32 hb
    exact h h1 h2
  · exact Nat.le_refl _
theorem zmod_le (x : Nat) : Nat.mod x 4294967296 ≤ 4294967296 := Nat.le_of_lt (Nat.mod_lt x (by decide))
theorem zadd_le (a b : Nat) : zadd a b ≤ 4294967296 := zk2_le (fun _ _ => zmod_le _)
theorem zsub_le (a b : Nat) : zsub a b ≤ 4294967296 := zk2_le (fun _ _ => zmod_le _)
theorem zmul_le (a b : Nat) : zmul a b ≤ 4294967296 := zk2_le (fun _ _ => zmod_le _)
theorem zand_le (a b : Nat) : zand a b ≤ 4294967296 := zk2_le (fun h _ => Nat.le_trans Nat.and_le_left (Nat.le_of_lt h))
theorem zor_le (a b : Nat) : zor a b ≤ 4294967296 := zk2_le (fun h1 h2 => Nat.le_of_lt (Nat.or_lt_two_pow (n := 32) h1 h2))
theorem zxor_le (a b : Nat) : zxor a b ≤ 4294967296 := zk2_le (fun h1 h2 => Nat.le_of_lt (Nat.xor_lt_two_pow (n := 32) h1 h2))
theorem zdiv_le (a b : Nat) : zdiv a b ≤ 4294967296 := by
  unfold zdiv
  cases hb : Nat.ble 2147483648 (Nat.lor a b)
  · exact Nat.le_trans (Nat.div_le_self a b) (by have := (zle31 hb).1; omega)
  · exact Nat.le_refl _
theorem zrem_le (a b : Nat) : zrem a b ≤ 4294967296 := by
  unfold zrem
  cases hb : Nat.ble 2147483648 (Nat.lor a b)
  · exact Nat.le_trans (Nat.mod_le a b) (by have := (zle31 hb).1; omega)
  · exact Nat.le_refl _
theorem zshl_le (a b : Nat) : zshl a b ≤ 4294967296 := by
  unfold zshl
  cases Nat.ble 4294967296 a
  · cases Nat.ble 32 b
    · exact zmod_le _
    · exact Nat.le_refl _
  · exact Nat.le_refl _
theorem zshr_le (a b : Nat) : zshr a b ≤ 4294967296 := by
  unfold zshr
  cases h : Nat.ble 2147483648 a
  · cases Nat.ble 32 b
    · exact Nat.le_trans (Nat.shiftRight_le a b) (by have := zble_f h; omega)
    · exact Nat.le_refl _
  · exact Nat.le_refl _
theorem zushr_le (a b : Nat) : zushr a b ≤ 4294967296 := by
  unfold zushr
  cases h : Nat.ble 4294967296 a
  · cases Nat.ble 32 b
    · exact Nat.le_trans (Nat.shiftRight_le a b) (by have := zble_f h; omega)
    · exact Nat.le_refl _
  · exact Nat.le_refl _
theorem zneg_le (a : Nat) : zneg a ≤ 4294967296 := by
  unfold zneg
  cases Nat.ble 4294967296 a
  · exact zmod_le _
  · exact Nat.le_refl _
theorem zl2i_le (a : Nat) : zl2i a ≤ 4294967296 := by
  unfold zl2i
  cases Nat.ble 18446744073709551616 a
  · exact zmod_le _
  · exact Nat.le_refl _
theorem zlcmp_le (a b : Nat) : zlcmp a b ≤ 4294967296 := by
  unfold zlcmp
  cases Nat.ble 18446744073709551616 (Nat.lor a b)
  · cases Nat.beq a b
    · cases zlej a b <;> decide
    · exact Nat.zero_le _
  · exact Nat.le_refl _
theorem zk2j_lt {a b v : Nat} (h : v < 4722366482869645213696) : zk2j a b v < 4722366482869645213696 := by
  unfold zk2j
  cases Nat.ble 18446744073709551616 (Nat.lor a b)
  · exact h
  · exact (by decide : (18446744073709551616 : Nat) < 4722366482869645213696)
theorem zmodj_lt (x : Nat) : Nat.mod x 18446744073709551616 < 4722366482869645213696 := Nat.lt_trans (Nat.mod_lt x (by decide)) (by decide)
theorem zaddj_lt (a b : Nat) : zaddj a b < 4722366482869645213696 := zk2j_lt (zmodj_lt _)
theorem zsubj_lt (a b : Nat) : zsubj a b < 4722366482869645213696 := zk2j_lt (zmodj_lt _)
theorem zmulj_lt (a b : Nat) : zmulj a b < 4722366482869645213696 := zk2j_lt (zmodj_lt _)
theorem zdivj_lt (a b : Nat) : zdivj a b < 4722366482869645213696 := by
  unfold zdivj
  cases hb : Nat.ble 9223372036854775808 (Nat.lor a b)
  · exact Nat.lt_of_le_of_lt (Nat.div_le_self a b) (by have := (zle_lor (w := 63) hb).1; omega)
  · exact (by decide : (18446744073709551616 : Nat) < 4722366482869645213696)
theorem zremj_lt (a b : Nat) : zremj a b < 4722366482869645213696 := by
  unfold zremj
  cases hb : Nat.ble 9223372036854775808 (Nat.lor a b)
  · exact Nat.lt_of_le_of_lt (Nat.mod_le a b) (by have := (zle_lor (w := 63) hb).1; omega)
  · exact (by decide : (18446744073709551616 : Nat) < 4722366482869645213696)
theorem znegj_lt (a : Nat) : znegj a < 4722366482869645213696 := by
  unfold znegj
  cases Nat.ble 18446744073709551616 a
  · exact zmodj_lt _
  · exact (by decide : (18446744073709551616 : Nat) < 4722366482869645213696)
theorem zi2l_lt (a : Nat) : zi2l a < 4722366482869645213696 := by
  unfold zi2l
  cases h1 : Nat.ble 2147483648 a
  · exact Nat.lt_trans (zble_f h1) (by decide)
  · cases h2 : Nat.ble 4294967296 a
    · have := zble_f h2
      show Nat.add a 18446744069414584320 < _
      exact Nat.lt_of_lt_of_le (Nat.add_lt_add_right this _) (by decide)
    · exact (by decide : (18446744073709551616 : Nat) < 4722366482869645213696)
end
section
/-! instructions: the machine of numbers does as the machine -/
theorem zLoc_at [zGh] {ad : zA} {nL n : Nat} {L : List zV} {ls : Array Slot} {v : zV} (h : zLoc ad nL L ls) (hv : L[n]? = some v) (hu : v ≠ zU) : ∃ x : Value, ls[n]? = some (.val x) ∧ zRep ad v x := by
  obtain ⟨-, lv, hlv, hall⟩ := h
  rcases hall n v hv with q | ⟨x, hx, hr⟩
  · exact absurd q hu
  · exact ⟨x, hlv.2.2 _ hx, hr⟩
theorem zLoc_set1 [zGh] {ad : zA} {nL n : Nat} {L L' : List zV} {ls' : Array Slot} {lv : List (Nat × Value)} {v : zV} {x : Value} (hlen : L'.length = nL) (hz : ∀ i, L'[i]? = zsta n v L i) (hlv : ∀ (i : Nat) (w : zV), L[i]? = some w → w = zU ∨ ∃ x : Value, (i, x) ∈ lv ∧ zRep ad w x) (hrep : v = zU ∨ zRep ad v x)
    (hls : lv_has ls' nL ((n, x) :: lv.filter (fun q => !(q.1 == n) && !(q.1 + 1 == n && q.2.category == 2)))) : zLoc ad nL L' ls' := by
  refine ⟨hlen, _, hls, fun i w hw => ?_⟩
  rw [hz i] at hw
  unfold zsta at hw
  by_cases h1 : i = n
  · rw [if_pos h1] at hw
    cases hw
    rcases hrep with q | q
    · exact Or.inl q
    · exact Or.inr ⟨x, by rw [h1]; exact List.mem_cons_self, q⟩
  · rw [if_neg h1] at hw
    by_cases h2 : i + 1 = n
    · rw [if_pos h2] at hw
      obtain ⟨u, hu, hw2⟩ := Option.map_eq_some_iff.mp hw
      match u, hu, hw2 with
      | .inl a, hu, hw2 =>
        have hw2 : zI a = w := hw2
        subst hw2
        rcases hlv i _ hu with q | ⟨x', hx', hr⟩
        · cases q
        · refine Or.inr ⟨x', List.mem_cons_of_mem _ (List.mem_filter.mpr ⟨hx', ?_⟩), hr⟩
          obtain ⟨y, rfl, -⟩ := hr
          simp [h1, Value.category]
      | .inr (.inl a), hu, hw2 =>
        have hw2 : zR a = w := hw2
        subst hw2
        rcases hlv i _ hu with q | ⟨x', hx', hr⟩
        · cases q
        · refine Or.inr ⟨x', List.mem_cons_of_mem _ (List.mem_filter.mpr ⟨hx', ?_⟩), hr⟩
          obtain ⟨y, rfl, -⟩ := hr
          cases y <;> simp [h1, Value.category, va_rf]
      | .inr (.inr (.inl a)), hu, hw2 =>
        have hw2 : zU = w := hw2
        exact Or.inl hw2.symm
      | .inr (.inr (.inr a)), hu, hw2 =>
        have hw2 : zW a = w := hw2
        subst hw2
        rcases hlv i _ hu with q | ⟨x', hx', hr⟩
        · exact Or.inl q
        · refine Or.inr ⟨x', List.mem_cons_of_mem _ (List.mem_filter.mpr ⟨hx', ?_⟩), hr⟩
          rcases hr with ⟨-, k0, a0, -, -, -, rfl⟩ | ⟨-, rfl⟩
          · simp [h1, Value.category]
          · generalize zop ad.2 (a - 1152921504606846976) = o
            cases o <;> simp [h1, Value.category, va_rf]
    · rw [if_neg h2] at hw
      rcases hlv i _ hw with q | ⟨x', hx', hr⟩
      · exact Or.inl q
      · refine Or.inr ⟨x', List.mem_cons_of_mem _ (List.mem_filter.mpr ⟨hx', ?_⟩), hr⟩
        simp [h1, h2]
/-- what a row of the kit does to the top of the stack: from st0 at pc to st1 at pc' -/
def zGo (X : zM) (pc pc' : Nat) (st0 st1 : List Value) : Prop := ∀ {p : Program} {l : Launch} {e : Env} {R : Room} {s : State} {m : MethodId} {args : Array Value} {below : List Frame} {meth : Method} {c : Code} {H : Heap} {locs : List Loc} {cells slots : Nat} {Q : State → Prop} {ls : Array Slot} {rest : List Value},
  p.tables.exec = Jvm.exec → c.code = X.2.1 → W p l e R s m args below meth c H locs cells slots Q (F0 m pc' ls (st1 ++ rest)) → W p l e R s m args below meth c H locs cells slots Q (F0 m pc ls (st0 ++ rest))
section OPS
variable {d : Nat} {X : zM} {fr : Nat} {P : zP d} {pc pc' : Nat} {k kt kf : zK d}
noncomputable def xild (n : Nat) (k : zK d) : zK d := fun L S h => znth n L (fun v => Sum.rec (motive := fun _ => Bool) (fun a => k L (zI a :: S) h) (fun _ => false) v)
noncomputable def xald (n : Nat) (k : zK d) : zK d := fun L S h => znth n L (fun v => Sum.rec (motive := fun _ => Bool) (fun _ => false) (fun u => Sum.rec (motive := fun _ => Bool) (fun a => k L (zR a :: S) h) (fun _ => false) u) v)
noncomputable def xlld (n : Nat) (k : zK d) : zK d := fun L S h => znth n L (fun v => Sum.rec (motive := fun _ => Bool) (fun _ => false) (fun u => Sum.rec (motive := fun _ => Bool) (fun _ => false) (fun w => Sum.rec (motive := fun _ => Bool) (fun a => k L (zL a :: S) h) (fun _ => false) w) u) v)
theorem sm_ild [G : zGh] {n : Nat} (row : ∀ {p : Program} {l : Launch} {e : Env} {R : Room} {s : State} {m : MethodId} {args : Array Value} {below : List Frame} {meth : Method} {c : Code} {H : Heap} {locs : List Loc} {cells slots : Nat} {Q : State → Prop} {ls : Array Slot} {rest : List Value} {x : Int32}, p.tables.exec = Jvm.exec → c.code = X.2.1 → ls[n]? = some (.val (.int x)) → W p l e R s m args below meth c H locs cells slots Q (F0 m pc' ls (.int x :: rest)) → W p l e R s m args below meth c H locs cells slots Q (F0 m pc ls rest)) (hs : zSim X fr P pc' k) : zSim X fr P pc (xild n k) := by
  intro Ch cA D ad0 A MC MS p l e s m args below meth c ls st H locs cells slots L S h Cx hk R0
  obtain ⟨ws, hHp, hpre, hP, hD, hS, hL, hst, hcb, hsb⟩ := R0
  obtain ⟨v, hv, hk2⟩ := znth_t n hk
  match v, hv, hk2 with
  | .inl a, hv, hk2 =>
    obtain ⟨x, hx, i, rfl, hi⟩ := zLoc_at hL hv (by intro q; cases q)
    exact row Cx.1 Cx.2.1 hx (hs Ch cA D ad0 A MC MS p l e s m args below meth c ls _ H locs cells slots L _ h Cx hk2 ⟨ws, hHp, hpre, hP, hD, hS, hL, ⟨⟨i, rfl, hi⟩, hst⟩, hcb, hsb⟩)
theorem sm_iload_n [G : zGh] {n : Nat} {f : Fin 4} (dg : decode X.2.1 pc = .ok (.iload_n f, 1)) (hf : (f : Nat) = n) (hs : zSim X fr P (pc + 1) k) : zSim X fr P pc (xild n k) := sm_ild (fun hx hb hl kk => lv_iload_n hx hb dg hf hl kk) hs
theorem sm_iload [G : zGh] {n : Nat} (dg : decode X.2.1 pc = .ok (.iload n, 2)) (hs : zSim X fr P (pc + 2) k) : zSim X fr P pc (xild n k) := sm_ild (fun hx hb hl kk => lv_iload hx hb dg hl kk) hs
theorem sm_lld [G : zGh] {n : Nat} (row : ∀ {p : Program} {l : Launch} {e : Env} {R : Room} {s : State} {m : MethodId} {args : Array Value} {below : List Frame} {meth : Method} {c : Code} {H : Heap} {locs : List Loc} {cells slots : Nat} {Q : State → Prop} {ls : Array Slot} {rest : List Value} {x : Int64}, p.tables.exec = Jvm.exec → c.code = X.2.1 → ls[n]? = some (.val (.long x)) → W p l e R s m args below meth c H locs cells slots Q (F0 m pc' ls (.long x :: rest)) → W p l e R s m args below meth c H locs cells slots Q (F0 m pc ls rest)) (hs : zSim X fr P pc' k) : zSim X fr P pc (xlld n k) := by
  intro Ch cA D ad0 A MC MS p l e s m args below meth c ls st H locs cells slots L S h Cx hk R0
  obtain ⟨ws, hHp, hpre, hP, hD, hS, hL, hst, hcb, hsb⟩ := R0
  obtain ⟨v, hv, hk2⟩ := znth_t n hk
  match v, hv, hk2 with
  | .inr (.inr (.inl a)), hv, hk2 =>
    obtain ⟨x, hx, i, rfl, hi⟩ := zLoc_at hL hv (by intro q; cases q)
    exact row Cx.1 Cx.2.1 hx (hs Ch cA D ad0 A MC MS p l e s m args below meth c ls _ H locs cells slots L _ h Cx hk2 ⟨ws, hHp, hpre, hP, hD, hS, hL, ⟨⟨i, rfl, hi⟩, hst⟩, hcb, hsb⟩)
theorem sm_lload_n [G : zGh] {n : Nat} {f : Fin 4} (dg : decode X.2.1 pc = .ok (.lload_n f, 1)) (hf : (f : Nat) = n) (hs : zSim X fr P (pc + 1) k) : zSim X fr P pc (xlld n k) := sm_lld (fun hx hb hl kk => lv_lload_n hx hb dg hf hl kk) hs
theorem sm_lload [G : zGh] {n : Nat} (dg : decode X.2.1 pc = .ok (.lload n, 2)) (hs : zSim X fr P (pc + 2) k) : zSim X fr P pc (xlld n k) := sm_lld (fun hx hb hl kk => lv_lload hx hb dg hl kk) hs
theorem sm_ald [G : zGh] {n : Nat} (row : ∀ {p : Program} {l : Launch} {e : Env} {R : Room} {s : State} {m : MethodId} {args : Array Value} {below : List Frame} {meth : Method} {c : Code} {H : Heap} {locs : List Loc} {cells slots : Nat} {Q : State → Prop} {ls : Array Slot} {rest : List Value} {o : Option Nat}, p.tables.exec = Jvm.exec → c.code = X.2.1 → ls[n]? = some (.val (va_rf o)) → W p l e R s m args below meth c H locs cells slots Q (F0 m pc' ls (va_rf o :: rest)) → W p l e R s m args below meth c H locs cells slots Q (F0 m pc ls rest)) (hs : zSim X fr P pc' k) : zSim X fr P pc (xald n k) := by
  intro Ch cA D ad0 A MC MS p l e s m args below meth c ls st H locs cells slots L S h Cx hk R0
  obtain ⟨ws, hHp, hpre, hP, hD, hS, hL, hst, hcb, hsb⟩ := R0
  obtain ⟨v, hv, hk2⟩ := znth_t n hk
  match v, hv, hk2 with
  | .inr (.inl a), hv, hk2 =>
    obtain ⟨x, hx, i, rfl, hi⟩ := zLoc_at hL hv (by intro q; cases q)
    exact row Cx.1 Cx.2.1 hx (hs Ch cA D ad0 A MC MS p l e s m args below meth c ls _ H locs cells slots L _ h Cx hk2 ⟨ws, hHp, hpre, hP, hD, hS, hL, ⟨⟨i, rfl, hi⟩, hst⟩, hcb, hsb⟩)
theorem sm_aload_n [G : zGh] {n : Nat} {f : Fin 4} (dg : decode X.2.1 pc = .ok (.aload_n f, 1)) (hf : (f : Nat) = n) (hs : zSim X fr P (pc + 1) k) : zSim X fr P pc (xald n k) := sm_ald (fun {_ _ _ _ _ _ _ _ _ _ _ _ _ _ _ _ _ o} hx hb hl kk => by
  cases o with
  | none => exact lv_aload_nN hx hb dg hf hl kk
  | some a => exact lv_aload_n hx hb dg hf hl kk) hs
theorem sm_aload [G : zGh] {n : Nat} (dg : decode X.2.1 pc = .ok (.aload n, 2)) (hs : zSim X fr P (pc + 2) k) : zSim X fr P pc (xald n k) := sm_ald (fun {_ _ _ _ _ _ _ _ _ _ _ _ _ _ _ _ _ o} hx hb hl kk => by
  cases o with
  | none => exact lv_aloadN hx hb dg hl kk
  | some a => exact lv_aload hx hb dg hl kk) hs
/-- stores -/
noncomputable def xist (n : Nat) (k : zK d) : zK d := fun L S h => zpI S (fun a S => zst n (zI a) L (fun L => k L S h))
noncomputable def xast (n : Nat) (k : zK d) : zK d := fun L S h => zpR S (fun a S => zst n (zR a) L (fun L => k L S h))
noncomputable def xlst (n : Nat) (k : zK d) : zK d := fun L S h => zpL S (fun a S => zst (Nat.succ n) zU L (fun L => zst n (zL a) L (fun L => k L S h)))
theorem sm_ist [G : zGh] {n : Nat} (row : ∀ {p : Program} {l : Launch} {e : Env} {R : Room} {s : State} {m : MethodId} {args : Array Value} {below : List Frame} {meth : Method} {c : Code} {H : Heap} {locs : List Loc} {cells slots : Nat} {Q : State → Prop} {ls : Array Slot} {rest : List Value} {x : Int32} {nL : Nat} {lv : List (Nat × Value)}, p.tables.exec = Jvm.exec → c.code = X.2.1 → lv_has ls nL lv → n < nL → (∀ ls' : Array Slot, lv_has ls' nL ((n, Value.int x) :: lv.filter (fun q => !(q.1 == n) && !(q.1 + 1 == n && q.2.category == 2))) → W p l e R s m args below meth c H locs cells slots Q (F0 m pc' ls' rest)) → W p l e R s m args below meth c H locs cells slots Q (F0 m pc ls (.int x :: rest))) (hs : zSim X fr P pc' k) : zSim X fr P pc (xist n k) := by
  intro Ch cA D ad0 A MC MS p l e s m args below meth c ls st H locs cells slots L S h Cx hk R0
  obtain ⟨ws, hHp, hpre, hP, hD, hS, hL, hst, hcb, hsb⟩ := R0
  obtain ⟨a, S, rfl, hk⟩ := zpI_t hk
  obtain ⟨x, st, rfl, hx, hst⟩ := zRepL_I hst
  obtain ⟨L', hlen, hn, hz, hk⟩ := zst_t n hk
  obtain ⟨hLn, lv, hlv, hall⟩ := hL
  refine row Cx.1 Cx.2.1 hlv (by rw [← hLn]; exact hn) (fun ls' hls => ?_)
  exact hs Ch cA D ad0 A MC MS p l e s m args below meth c ls' _ H locs cells slots L' _ h Cx hk ⟨ws, hHp, hpre, hP, hD, hS, zLoc_set1 (by rw [hlen]; exact hLn) hz hall (Or.inr ⟨x, rfl, hx⟩) hls, hst, hcb, hsb⟩
theorem sm_istore_n [G : zGh] {n : Nat} {f : Fin 4} (dg : decode X.2.1 pc = .ok (.istore_n f, 1)) (hf : (f : Nat) = n) (hs : zSim X fr P (pc + 1) k) : zSim X fr P pc (xist n k) := sm_ist (fun hx hb h hn kk => lv_istore_n hx hb dg hf h hn rfl kk) hs
theorem sm_istore [G : zGh] {n : Nat} (dg : decode X.2.1 pc = .ok (.istore n, 2)) (hs : zSim X fr P (pc + 2) k) : zSim X fr P pc (xist n k) := sm_ist (fun hx hb h hn kk => lv_istore hx hb dg h hn rfl kk) hs
theorem sm_ast [G : zGh] {n : Nat} (row : ∀ {p : Program} {l : Launch} {e : Env} {R : Room} {s : State} {m : MethodId} {args : Array Value} {below : List Frame} {meth : Method} {c : Code} {H : Heap} {locs : List Loc} {cells slots : Nat} {Q : State → Prop} {ls : Array Slot} {rest : List Value} {o : Option Nat} {nL : Nat} {lv : List (Nat × Value)}, p.tables.exec = Jvm.exec → c.code = X.2.1 → lv_has ls nL lv → n < nL → (∀ ls' : Array Slot, lv_has ls' nL ((n, va_rf o) :: lv.filter (fun q => !(q.1 == n) && !(q.1 + 1 == n && q.2.category == 2))) → W p l e R s m args below meth c H locs cells slots Q (F0 m pc' ls' rest)) → W p l e R s m args below meth c H locs cells slots Q (F0 m pc ls (va_rf o :: rest))) (hs : zSim X fr P pc' k) : zSim X fr P pc (xast n k) := by
  intro Ch cA D ad0 A MC MS p l e s m args below meth c ls st H locs cells slots L S h Cx hk R0
  obtain ⟨ws, hHp, hpre, hP, hD, hS, hL, hst, hcb, hsb⟩ := R0
  obtain ⟨a, S, rfl, hk⟩ := zpR_t hk
  obtain ⟨x, st, rfl, hx, hst⟩ := zRepL_R hst
  obtain ⟨L', hlen, hn, hz, hk⟩ := zst_t n hk
  obtain ⟨hLn, lv, hlv, hall⟩ := hL
  refine row Cx.1 Cx.2.1 hlv (by rw [← hLn]; exact hn) (fun ls' hls => ?_)
  exact hs Ch cA D ad0 A MC MS p l e s m args below meth c ls' _ H locs cells slots L' _ h Cx hk ⟨ws, hHp, hpre, hP, hD, hS, zLoc_set1 (by rw [hlen]; exact hLn) hz hall (Or.inr ⟨x, rfl, hx⟩) hls, hst, hcb, hsb⟩
theorem sm_astore_n [G : zGh] {n : Nat} {f : Fin 4} (dg : decode X.2.1 pc = .ok (.astore_n f, 1)) (hf : (f : Nat) = n) (hs : zSim X fr P (pc + 1) k) : zSim X fr P pc (xast n k) := sm_ast (fun {_ _ _ _ _ _ _ _ _ _ _ _ _ _ _ _ _ o _ _} hx hb h hn kk => by
  cases o with
  | none => exact lv_astore_nN hx hb dg hf h hn rfl kk
  | some a => exact lv_astore_n hx hb dg hf h hn rfl kk) hs
theorem sm_astore [G : zGh] {n : Nat} (dg : decode X.2.1 pc = .ok (.astore n, 2)) (hs : zSim X fr P (pc + 2) k) : zSim X fr P pc (xast n k) := sm_ast (fun {_ _ _ _ _ _ _ _ _ _ _ _ _ _ _ _ _ o _ _} hx hb h hn kk => by
  cases o with
  | none => exact lv_astoreN hx hb dg h hn rfl kk
  | some a => exact lv_astore hx hb dg h hn rfl kk) hs
theorem sm_lst [G : zGh] {n : Nat} (row : ∀ {p : Program} {l : Launch} {e : Env} {R : Room} {s : State} {m : MethodId} {args : Array Value} {below : List Frame} {meth : Method} {c : Code} {H : Heap} {locs : List Loc} {cells slots : Nat} {Q : State → Prop} {ls : Array Slot} {rest : List Value} {x : Int64} {nL : Nat} {lv : List (Nat × Value)}, p.tables.exec = Jvm.exec → c.code = X.2.1 → lv_has ls nL lv → n + 1 < nL → (∀ ls' : Array Slot, lv_has ls' nL ((n, Value.long x) :: lv.filter (fun q => !(q.1 == n) && (!(q.1 == n + 1) && !(q.1 + 1 == n && q.2.category == 2)))) → W p l e R s m args below meth c H locs cells slots Q (F0 m pc' ls' rest)) → W p l e R s m args below meth c H locs cells slots Q (F0 m pc ls (.long x :: rest))) (hs : zSim X fr P pc' k) : zSim X fr P pc (xlst n k) := by
  intro Ch cA D ad0 A MC MS p l e s m args below meth c ls st H locs cells slots L S h Cx hk R0
  obtain ⟨ws, hHp, hpre, hP, hD, hS, hL, hst, hcb, hsb⟩ := R0
  obtain ⟨a, S, rfl, hk⟩ := zpL_t hk
  obtain ⟨x, st, rfl, hx, hst⟩ := zRepL_L hst
  have hk : zst (n + 1) zU L (fun L => zst n (zL a) L (fun L => k L S h)) = true := hk
  obtain ⟨L1, hlen1, hn1, hz1, hk⟩ := zst_t (n + 1) hk
  have hk : zst n (zL a) L1 (fun L => k L S h) = true := hk
  obtain ⟨L', hlen, hn, hz, hk⟩ := zst_t n hk
  obtain ⟨hLn, lv, hlv, hall⟩ := hL
  refine row Cx.1 Cx.2.1 hlv (by rw [← hLn]; exact hn1) (fun ls' hls => ?_)
  refine hs Ch cA D ad0 A MC MS p l e s m args below meth c ls' _ H locs cells slots L' _ h Cx hk ⟨ws, hHp, hpre, hP, hD, hS, ⟨by rw [hlen, hlen1]; exact hLn, _, hls, fun i w hw => ?_⟩, hst, hcb, hsb⟩
  rw [hz i] at hw
  unfold zsta at hw
  by_cases h1 : i = n
  · rw [if_pos h1] at hw
    cases hw
    exact Or.inr ⟨_, by rw [h1]; exact List.mem_cons_self, x, rfl, hx⟩
  · rw [if_neg h1] at hw
    have hz1 := hz1 i
    unfold zsta at hz1
    by_cases h3 : i = n + 1
    · rw [if_neg (by omega)] at hw
      rw [if_pos h3] at hz1
      rw [hz1] at hw
      cases hw
      exact Or.inl rfl
    · rw [if_neg h3, if_neg (by omega)] at hz1
      by_cases h2 : i + 1 = n
      · rw [if_pos h2, hz1] at hw
        obtain ⟨u, hu, hw2⟩ := Option.map_eq_some_iff.mp hw
        match u, hu, hw2 with
        | .inl a, hu, hw2 =>
          have hw2 : zI a = w := hw2
          subst hw2
          rcases hall i _ hu with q | ⟨x', hx', hr⟩
          · cases q
          · refine Or.inr ⟨x', List.mem_cons_of_mem _ (List.mem_filter.mpr ⟨hx', ?_⟩), hr⟩
            obtain ⟨y, rfl, -⟩ := hr
            simp [h1, h3, Value.category]
        | .inr (.inl a), hu, hw2 =>
          have hw2 : zR a = w := hw2
          subst hw2
          rcases hall i _ hu with q | ⟨x', hx', hr⟩
          · cases q
          · refine Or.inr ⟨x', List.mem_cons_of_mem _ (List.mem_filter.mpr ⟨hx', ?_⟩), hr⟩
            obtain ⟨y, rfl, -⟩ := hr
            cases y <;> simp [h1, h3, Value.category, va_rf]
        | .inr (.inr (.inl a)), hu, hw2 =>
          have hw2 : zU = w := hw2
          exact Or.inl hw2.symm
        | .inr (.inr (.inr a)), hu, hw2 =>
          have hw2 : zW a = w := hw2
          subst hw2
          rcases hall i _ hu with q | ⟨x', hx', hr⟩
          · exact Or.inl q
          · refine Or.inr ⟨x', List.mem_cons_of_mem _ (List.mem_filter.mpr ⟨hx', ?_⟩), hr⟩
            rcases hr with ⟨-, k0, a0, -, -, -, rfl⟩ | ⟨-, rfl⟩
            · simp [h1, h3, Value.category]
            · generalize zop (zad cA ws).2 (a - 1152921504606846976) = o
              cases o <;> simp [h1, h3, Value.category, va_rf]
      · rw [if_neg h2, hz1] at hw
        rcases hall i _ hw with q | ⟨x', hx', hr⟩
        · exact Or.inl q
        · refine Or.inr ⟨x', List.mem_cons_of_mem _ (List.mem_filter.mpr ⟨hx', ?_⟩), hr⟩
          simp [h1, h2, h3]
theorem sm_lstore_n [G : zGh] {n : Nat} {f : Fin 4} (dg : decode X.2.1 pc = .ok (.lstore_n f, 1)) (hf : (f : Nat) = n) (hs : zSim X fr P (pc + 1) k) : zSim X fr P pc (xlst n k) := sm_lst (fun hx hb h hn kk => lv_lstore_n hx hb dg hf h hn rfl kk) hs
theorem sm_lstore [G : zGh] {n : Nat} (dg : decode X.2.1 pc = .ok (.lstore n, 2)) (hs : zSim X fr P (pc + 2) k) : zSim X fr P pc (xlst n k) := sm_lst (fun hx hb h hn kk => lv_lstore hx hb dg h hn rfl kk) hs
/-- iinc -/
noncomputable def xinc (n v : Nat) (k : zK d) : zK d := fun L S h => znth n L (fun u => Sum.rec (motive := fun _ => Bool) (fun a => zF (fun w => zst n (zI w) L (fun L => k L S h)) (zadd a v)) (fun _ => false) u)
theorem sm_iinc [G : zGh] {n v : Nat} {z : Int} (dg : decode X.2.1 pc = .ok (.iinc n z, 3)) (hz : zi (Int32.ofInt z) = v) (hs : zSim X fr P (pc + 3) k) : zSim X fr P pc (xinc n v k) := by
  intro Ch cA D ad0 A MC MS p l e s m args below meth c ls st H locs cells slots L S h Cx hk R0
  obtain ⟨ws, hHp, hpre, hP, hD, hS, hL, hst, hcb, hsb⟩ := R0
  obtain ⟨u, hu, hk2⟩ := znth_t n hk
  match u, hu, hk2 with
  | .inl a, hu, hk2 =>
    have hk2 : zF (fun w => zst n (zI w) L (fun L => k L S h)) (zadd a v) = true := hk2
    rw [zF_eq] at hk2
    obtain ⟨L', hlen, hn, hz2, hk2⟩ := zst_t n hk2
    obtain ⟨hLn, lv, hlv, hall⟩ := hL
    rcases hall n _ hu with q | ⟨x, hx, i, rfl, hi⟩
    · cases q
    · obtain ⟨j, hj⟩ := List.getElem?_of_mem hx
      refine lv_iinc (k := j) Cx.1 Cx.2.1 dg hlv hj rfl (by rw [← hLn]; exact hn) rfl (fun ls' hls => ?_)
      exact hs Ch cA D ad0 A MC MS p l e s m args below meth c ls' _ H locs cells slots L' _ h Cx hk2 ⟨ws, hHp, hpre, hP, hD, hS, zLoc_set1 (by rw [hlen]; exact hLn) hz2 hall (Or.inr ⟨_, rfl, zIs_of (zadd_ok hi.1 (fun _ => hz)) (zadd_le _ _)⟩) hls, hst, hcb, hsb⟩
end OPS
end
