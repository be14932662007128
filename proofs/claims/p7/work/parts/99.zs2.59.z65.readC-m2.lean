section
/-! the class's reader at n = 65: by program -/
noncomputable def zk_99_zs2_59_z65_readC_0 : zC := (24, 8, 0x80000000088000000007000000000200000000038000000004000000001d80000000028000000001)
noncomputable def zk_99_zs2_59_z65_readC_1 : zT 1 := @Prod.mk (zT 0) (zT 0) zk_99_zs2_59_z65_readC_0 (18, 15, 0x1000000c900000000550000000024000000001d0000000003010000000001000000c9000000001c000000001b000000001a00000000190000000013000000000d00000000070000000005)
noncomputable def zk_99_zs2_59_z65_readC_2 : zT 1 := @Prod.mk (zT 0) (zT 0) (22, 2, 0x1000000c90000000004) (0, 200, zun 40 200 4294967296)
noncomputable def zk_99_zs2_59_z65_readC_3 : zT 1 := @Prod.mk (zT 0) (zT 0) (4, 5, 0xc000000000b000000000a00000000090000000008) (2, 11, zun 72 11 18446744073709551616)
noncomputable def zk_99_zs2_59_z65_readC_4 : zT 2 := @Prod.mk (zT 1) (zT 1) ((17, 4, 0x100000010000000000601000000000100000000), (0, 15, zun 40 15 4294967296)) zk_99_zs2_59_z65_readC_3
noncomputable def zk_99_zs2_59_z65_readC_5 : zT 1 := @Prod.mk (zT 0) (zT 0) (2, 11, zun 72 11 18446744073709551616) (2, 11, zun 72 11 18446744073709551616)
noncomputable def zk_99_zs2_59_z65_readC_6 : zT 3 := @Prod.mk (zT 2) (zT 2) (zk_99_zs2_59_z65_readC_5, zk_99_zs2_59_z65_readC_5) (((4, 5, 0x1200000000110000000010000000000f000000000e), (2, 11, zun 72 11 18446744073709551616)), zk_99_zs2_59_z65_readC_5)
noncomputable def zk_99_zs2_59_z65_readC_7 : zT 4 := @Prod.mk (zT 3) (zT 3) ((zk_99_zs2_59_z65_readC_5, ((4, 5, 0x180000000017000000001600000000150000000014), (2, 11, zun 72 11 18446744073709551616))), (zk_99_zs2_59_z65_readC_5, zk_99_zs2_59_z65_readC_5)) ((((0, 5, 0x1000000000100000000010000000001000000000100000000), (0, 5, 0x1000000000100000000010000000001000000000100000000)), ((0, 5, 0x1000000000100000000010000000001000000000100000000), (0, 6, 0x10000000001000000000100000000010000000001000000000100000000))), (((4, 6, 0x23000000002200000000210000000020000000001f000000001e), (2, 11, zun 72 11 18446744073709551616)), zk_99_zs2_59_z65_readC_5))
noncomputable def zk_99_zs2_59_z65_readC_8 : zT 1 := @Prod.mk (zT 0) (zT 0) (0, 11, zun 40 11 4294967296) (0, 11, zun 40 11 4294967296)
noncomputable def zk_99_zs2_59_z65_readC_9 : zT 5 := @Prod.mk (zT 4) (zT 4) (((zk_99_zs2_59_z65_readC_5, ((2, 11, zun 72 11 18446744073709551616), (23, 14, 0x80000008ce000000003d000000004980000008cb80000008ca80000008c9000000003c80000008c780000008c680000008c5000000002580000008c3000000000b80000008c1))), (((5, 11, 0x30000000002f000000002e000000002d000000002c000000002b000000002a0000000029000000002800000000270000000026), (20, 16, 0x8000000950800000094f800000094e800000094d800000094c800000094b800000094a800000094980000009488000000947800000094680000009458000000944000000003180000009428000000941)), ((20, 16, 0x8000000990800000098f800000098e800000098d800000098c800000098b800000098a800000098980000009888000000987800000098680000009858000000984000000003280000009828000000981), (20, 16, 0x80000009d080000009cf80000009ce80000009cd80000009cc80000009cb80000009ca80000009c980000009c880000009c780000009c680000009c580000009c4000000003380000009c280000009c1)))), ((((20, 16, 0x8000000a108000000a0f8000000a0e8000000a0d8000000a0c8000000a0b8000000a0a8000000a098000000a088000000a078000000a068000000a058000000a0400000000348000000a028000000a01), (20, 16, 0x8000000a508000000a4f8000000a4e8000000a4d8000000a4c8000000a4b8000000a4a8000000a498000000a488000000a478000000a468000000a458000000a4400000000358000000a428000000a41)), ((20, 16, 0x8000000a908000000a8f8000000a8e8000000a8d8000000a8c8000000a8b8000000a8a8000000a898000000a888000000a878000000a868000000a858000000a8400000000368000000a828000000a81), (20, 16, 0x8000000ad08000000acf8000000ace8000000acd8000000acc8000000acb8000000aca8000000ac98000000ac88000000ac78000000ac68000000ac58000000ac400000000378000000ac28000000ac1))), (((20, 16, 0x8000000b108000000b0f8000000b0e8000000b0d8000000b0c8000000b0b8000000b0a8000000b098000000b088000000b078000000b068000000b058000000b0400000000388000000b028000000b01), (20, 16, 0x8000000b508000000b4f8000000b4e8000000b4d8000000b4c8000000b4b8000000b4a8000000b498000000b488000000b478000000b468000000b458000000b4400000000398000000b428000000b41)), ((20, 16, 0x8000000b908000000b8f8000000b8e8000000b8d8000000b8c8000000b8b8000000b8a8000000b898000000b888000000b878000000b868000000b858000000b84000000003a8000000b828000000b81), (20, 16, 0x8000000bd08000000bcf8000000bce8000000bcd8000000bcc8000000bcb8000000bca8000000bc98000000bc88000000bc78000000bc68000000bc58000000bc4000000003b8000000bc28000000bc1))))) (((((0, 1, 6), (0, 2, 0x10000000005)), ((0, 2, 0x20000000004), (0, 3, 0x100000000010000000004))), (((0, 2, 0x30000000003), (0, 3, 0x100000000020000000003)), ((0, 4, 0x1000000000100000000010000000003), (0, 3, 0x200000000020000000002)))), ((((0, 4, 0x1000000000100000000020000000002), (0, 5, 0x10000000001000000000100000000010000000002)), ((0, 6, 0x100000000010000000001000000000100000000010000000001), (0, 11, 0x100ffffffff000000000100ffffffff000000000100ffffffff000000000100ffffffff0000000001000000000100ffffffff))), (((3, 11, 0x4800000000470000000046000000004500000000440000000043000000004200000000410000000040000000003f000000003e), (0, 11, zun 40 11 4294967296)), zk_99_zs2_59_z65_readC_8)))
noncomputable def zk_99_zs2_59_z65_readC_10 : zT 3 := @Prod.mk (zT 2) (zT 2) (zk_99_zs2_59_z65_readC_8, zk_99_zs2_59_z65_readC_8) (zk_99_zs2_59_z65_readC_8, zk_99_zs2_59_z65_readC_8)
noncomputable def zk_99_zs2_59_z65_readC_11 : zT 6 := @Prod.mk (zT 5) (zT 5) ((zk_99_zs2_59_z65_readC_10, ((((3, 11, 0x540000000053000000005200000000510000000050000000004f000000004e000000004d000000004c000000004b000000004a), (0, 11, zun 40 11 4294967296)), zk_99_zs2_59_z65_readC_8), (zk_99_zs2_59_z65_readC_8, zk_99_zs2_59_z65_readC_8))), (((zk_99_zs2_59_z65_readC_8, zk_99_zs2_59_z65_readC_8), (((21, 12, 0x800000150c800000150b0000000063800000150980000015080000000057800000150680000015058000001504000000005680000015028000001501), (0, 11, 0xffffffff0000000009000000000800000000070000000006000000000500000000040000000003000000000200000000010000000000)), ((3, 11, 0x6200000000610000000060000000005f000000005e000000005d000000005c000000005b000000005a00000000590000000058), (0, 11, zun 40 11 4294967296)))), zk_99_zs2_59_z65_readC_10)) ((((zk_99_zs2_59_z65_readC_8, ((3, 11, 0x6e000000006d000000006c000000006b000000006a000000006900000000680000000067000000006600000000650000000064), (0, 11, zun 40 11 4294967296))), (zk_99_zs2_59_z65_readC_8, zk_99_zs2_59_z65_readC_8)), ((zk_99_zs2_59_z65_readC_8, zk_99_zs2_59_z65_readC_8), (zk_99_zs2_59_z65_readC_8, zO1))), zO4)
noncomputable def hw_65 : zH 7 := (show zT 7 from ((((((zk_99_zs2_59_z65_readC_1, zk_99_zs2_59_z65_readC_2), zk_99_zs2_59_z65_readC_4), zk_99_zs2_59_z65_readC_6), zk_99_zs2_59_z65_readC_7), zk_99_zs2_59_z65_readC_9), zk_99_zs2_59_z65_readC_11), (110, (0, 0)))
noncomputable def zk_99_zs2_59_z65_readC_12 : zT 2 := @Prod.mk (zT 1) (zT 1) (zk_99_zs2_59_z65_readC_0, (18, 15, 0x1000000c800000000550000000024000000001d0000000003010000000001000000c9000000001c000000001b000000001a00000000190000000013000000000d00000000070000000005)) zk_99_zs2_59_z65_readC_2
noncomputable def hv_65 : zH 7 := (show zT 7 from (((((zk_99_zs2_59_z65_readC_12, zk_99_zs2_59_z65_readC_4), zk_99_zs2_59_z65_readC_6), zk_99_zs2_59_z65_readC_7), zk_99_zs2_59_z65_readC_9), zk_99_zs2_59_z65_readC_11), (110, (0, 0)))
noncomputable def hs_X2_add_65 : zH 2 := (show zT 2 from (((18, 15, 0x800000000f800000000e0000000002800000000c800000000b800000000a800000000980000000088000000007800000000680000000058000000004800000000380000000028000000001), (23, 14, 0x800000004e800000004d800000004c800000004b800000004a8000000049800000004880000000478000000046800000004580000000448000000043000000000b8000000041)), zk_99_zs2_59_z65_readC_5), (4, (0, 0)))
noncomputable def hs_X2_add_65_o0 : zH 2 := (show zT 2 from (((18, 15, 0x800000000f800000000e0000000002800000000c800000000b800000000a800000000980000000088000000007800000000680000000058000000004800000000380000000028000000001), (23, 14, 0x800000004e800000004d800000004c800000004b800000004a8000000049800000004880000000478000000046800000004580000000448000000043000000000b8000000041)), zk_99_zs2_59_z65_readC_5), (4, (0, 0)))
noncomputable def hs_X2_add_65_o1 : zH 2 := (show zT 2 from (((18, 15, 0x800000000f800000000e0000000002800000000c800000000b800000000a800000000980000000088000000007800000000680000000058000000004800000000380000000028000000001), (23, 14, 0x800000004e800000004d800000004c800000004b800000004a8000000049800000004880000000478000000046800000004580000000448000000043000000000b8000000041)), zk_99_zs2_59_z65_readC_5), (4, (0, 0)))
set_option maxRecDepth 100000 in
theorem ev_X2_add_65 : f_X2_addt [zR 1, zR 3, zI 4294967298, zR 4] hs_X2_add_65 (zrkL [(zI 0, hs_X2_add_65_o0), (zI 1, hs_X2_add_65_o1)]) = true := by decide +kernel
noncomputable def g_X2_add_65 {d : Nat} : List zV → zH d → zP d → Bool := zsmyL [(0, 0), (1, 12), (0, 1), (0, 3)] [zR 1, zR 3, zI 4294967298, zR 4] hs_X2_add_65 [(zI 0, hs_X2_add_65_o0), (zI 1, hs_X2_add_65_o1)]
theorem mg_X2_add_65 {d : Nat} : zMet (d := d) X_X2_add yX2_add 1 g_X2_add_65 := zMet_smL m_X2_addt ev_X2_add_65

noncomputable def hs_X2_multiply_65 : zH 2 := (show zT 2 from (((18, 15, 0x800000000f800000000e0000000002800000000c800000000b800000000a800000000980000000088000000007800000000680000000058000000004800000000380000000028000000001), (23, 14, 0x800000004e800000004d800000004c800000004b800000004a8000000049800000004880000000478000000046800000004580000000448000000043000000000b8000000041)), zk_99_zs2_59_z65_readC_5), (4, (0, 0)))
noncomputable def hs_X2_multiply_65_o0 : zH 2 := (show zT 2 from (((18, 15, 0x800000000f800000000e0000000002800000000c800000000b800000000a800000000980000000088000000007800000000680000000058000000004800000000380000000028000000001), (23, 14, 0x800000004e800000004d800000004c800000004b800000004a8000000049800000004880000000478000000046800000004580000000448000000043000000000b8000000041)), zk_99_zs2_59_z65_readC_5), (4, (0, 0)))
noncomputable def hs_X2_multiply_65_o1 : zH 2 := (show zT 2 from (((18, 15, 0x800000000f800000000e0000000002800000000c800000000b800000000a800000000980000000088000000007800000000680000000058000000004800000000380000000028000000001), (23, 14, 0x800000004e800000004d800000004c800000004b800000004a8000000049800000004880000000478000000046800000004580000000448000000043000000000b8000000041)), zk_99_zs2_59_z65_readC_5), (4, (0, 0)))
set_option maxRecDepth 100000 in
theorem ev_X2_multiply_65 : f_X2_multiplyt [zR 1, zR 3, zR 4] hs_X2_multiply_65 (zrkL [(zI 0, hs_X2_multiply_65_o0), (zI 1, hs_X2_multiply_65_o1)]) = true := by decide +kernel
noncomputable def g_X2_multiply_65 {d : Nat} : List zV → zH d → zP d → Bool := zsmyL [(0, 0), (1, 12), (0, 1), (0, 2)] [zR 1, zR 3, zR 4] hs_X2_multiply_65 [(zI 0, hs_X2_multiply_65_o0), (zI 1, hs_X2_multiply_65_o1)]
theorem mg_X2_multiply_65 {d : Nat} : zMet (d := d) X_X2_multiply yX2_multiply 1 g_X2_multiply_65 := zMet_smL m_X2_multiplyt ev_X2_multiply_65

set_option maxRecDepth 100000 in
theorem e_cO65_0 : f_X7_numberOft [zR 36, zR 28, zI 4294967497] hw_65 (zrkL [(zI 4294967295, hw_65), (zI 4294967307, hw_65)]) = true := by decide +kernel
noncomputable def g_cO65_0 : List zV → zH 7 → zP 7 → Bool := zocs [zR 36, zR 28, zI 4294967497] hw_65 [(zI 4294967295, hw_65), (zI 4294967307, hw_65)]
theorem m_cO65_0 : zMet X_X7_numberOf yX7_numberOf 1 g_cO65_0 := zMet_oc (m_X7_numberOft) e_cO65_0
noncomputable def h_cK65_4_o0 : zH 7 := (show zT 7 from ((((((zk_99_zs2_59_z65_readC_1, zk_99_zs2_59_z65_readC_2), (((17, 4, 0xf000000000601000000000100000004), (0, 15, zun 40 15 4294967296)), zk_99_zs2_59_z65_readC_3)), zk_99_zs2_59_z65_readC_6), zk_99_zs2_59_z65_readC_7), zk_99_zs2_59_z65_readC_9), zk_99_zs2_59_z65_readC_11), (110, (0, 0)))
set_option maxRecDepth 100000 in
theorem e_cK65_4 : (f_X2_takeCharactert g_cO65_0) [zR 2, zI 4, zI 4294967296] hw_65 (zrkL [(zI 0, h_cK65_4_o0), (zI 1, hw_65)]) = true := by decide +kernel
noncomputable def g_cK65_4 : List zV → zH 7 → zP 7 → Bool := zocs [zR 2, zI 4, zI 4294967296] hw_65 [(zI 0, h_cK65_4_o0), (zI 1, hw_65)]
theorem m_cK65_4 : zMet X_X2_takeCharacter yX2_takeCharacter 4 g_cK65_4 := zMet_oc (m_X2_takeCharactert _ _ m_cO65_0) e_cK65_4
set_option maxRecDepth 100000 in
theorem e_cL65_4 : f_X2_readSlott [zR 2, zI 4] hw_65 (zrkL [(zI 0, hw_65), (zI 1, hw_65)]) = true := by decide +kernel
noncomputable def g_cL65_4 : List zV → zH 7 → zP 7 → Bool := zocs [zR 2, zI 4] hw_65 [(zI 0, hw_65), (zI 1, hw_65)]
theorem m_cL65_4 : zMet X_X2_readSlot yX2_readSlot 3 g_cL65_4 := zMet_oc (m_X2_readSlott) e_cL65_4
noncomputable def h_cB65_4_o0 : zH 7 := (show zT 7 from (((((zk_99_zs2_59_z65_readC_12, (((17, 4, 0xf000000000601000000c80000000005), (0, 15, zun 40 15 4294967296)), zk_99_zs2_59_z65_readC_3)), zk_99_zs2_59_z65_readC_6), zk_99_zs2_59_z65_readC_7), zk_99_zs2_59_z65_readC_9), zk_99_zs2_59_z65_readC_11), (110, (0, 0)))
set_option maxRecDepth 100000 in
theorem e_cB65_4 : (f_X2_readInBracketst (fun _ _ _ => false)) [zR 2, zI 4] hv_65 (zrkL [(zI 0, h_cB65_4_o0)]) = true := by decide +kernel
noncomputable def g_cB65_4 : List zV → zH 7 → zP 7 → Bool := zocs [zR 2, zI 4] hv_65 [(zI 0, h_cB65_4_o0)]
theorem m_cB65_4 : zMet X_X2_readInBrackets yX2_readInBrackets 3 g_cB65_4 := zMet_oc (m_X2_readInBracketst 0 _ zfalse) e_cB65_4
set_option maxRecDepth 100000 in
theorem e_cF65_4 : (f_X2_readFactort g_cB65_4 g_cL65_4 g_cK65_4) [zR 2, zI 4] hw_65 (zrkL [(zI 0, hw_65), (zI 1, hw_65)]) = true := by decide +kernel
noncomputable def g_cF65_4 : List zV → zH 7 → zP 7 → Bool := zocs [zR 2, zI 4] hw_65 [(zI 0, hw_65), (zI 1, hw_65)]
theorem m_cF65_4 : zMet X_X2_readFactor yX2_readFactor 14 g_cF65_4 := zMet_oc (m_X2_readFactort _ _ _ _ _ _ m_cB65_4 m_cL65_4 m_cK65_4) e_cF65_4
set_option maxRecDepth 100000 in
theorem e_cT65_4 : (f_X2_readTermt g_cF65_4 g_X2_multiply_65) [zR 2, zI 4] hw_65 (zrkL [(zI 0, hw_65), (zI 1, hw_65)]) = true := by decide +kernel
noncomputable def g_cT65_4 : List zV → zH 7 → zP 7 → Bool := zocs [zR 2, zI 4] hw_65 [(zI 0, hw_65), (zI 1, hw_65)]
theorem m_cT65_4 : zMet X_X2_readTerm yX2_readTerm 18 g_cT65_4 := zMet_oc (m_X2_readTermt _ _ _ _ m_cF65_4 mg_X2_multiply_65) e_cT65_4
set_option maxRecDepth 100000 in
theorem e_cS65_4 : (f_X2_readSumt g_cT65_4 g_X2_add_65) [zR 2, zI 4] hw_65 (zrkL [(zI 0, hw_65), (zI 1, hw_65)]) = true := by decide +kernel
noncomputable def g_cS65_4 : List zV → zH 7 → zP 7 → Bool := zocs [zR 2, zI 4] hw_65 [(zI 0, hw_65), (zI 1, hw_65)]
theorem m_cS65_4 : zMet X_X2_readSum yX2_readSum 22 g_cS65_4 := zMet_oc (m_X2_readSumt _ _ _ _ m_cT65_4 mg_X2_add_65) e_cS65_4
noncomputable def h_cK65_3_o0 : zH 7 := (show zT 7 from ((((((zk_99_zs2_59_z65_readC_1, zk_99_zs2_59_z65_readC_2), (((17, 4, 0xc000000000601000000000100000004), (0, 15, zun 40 15 4294967296)), zk_99_zs2_59_z65_readC_3)), zk_99_zs2_59_z65_readC_6), zk_99_zs2_59_z65_readC_7), zk_99_zs2_59_z65_readC_9), zk_99_zs2_59_z65_readC_11), (110, (0, 0)))
set_option maxRecDepth 100000 in
theorem e_cK65_3 : (f_X2_takeCharactert g_cO65_0) [zR 2, zI 3, zI 4294967296] hw_65 (zrkL [(zI 0, h_cK65_3_o0), (zI 1, hw_65)]) = true := by decide +kernel
noncomputable def g_cK65_3 : List zV → zH 7 → zP 7 → Bool := zocs [zR 2, zI 3, zI 4294967296] hw_65 [(zI 0, h_cK65_3_o0), (zI 1, hw_65)]
theorem m_cK65_3 : zMet X_X2_takeCharacter yX2_takeCharacter 4 g_cK65_3 := zMet_oc (m_X2_takeCharactert _ _ m_cO65_0) e_cK65_3
set_option maxRecDepth 100000 in
theorem e_cL65_3 : f_X2_readSlott [zR 2, zI 3] hw_65 (zrkL [(zI 0, hw_65), (zI 1, hw_65)]) = true := by decide +kernel
noncomputable def g_cL65_3 : List zV → zH 7 → zP 7 → Bool := zocs [zR 2, zI 3] hw_65 [(zI 0, hw_65), (zI 1, hw_65)]
theorem m_cL65_3 : zMet X_X2_readSlot yX2_readSlot 3 g_cL65_3 := zMet_oc (m_X2_readSlott) e_cL65_3
set_option maxRecDepth 100000 in
theorem e_cB65_3 : (f_X2_readInBracketst g_cS65_4) [zR 2, zI 3] hv_65 (zrkL [(zI 0, hw_65), (zI 1, hw_65)]) = true := by decide +kernel
noncomputable def g_cB65_3 : List zV → zH 7 → zP 7 → Bool := zocs [zR 2, zI 3] hv_65 [(zI 0, hw_65), (zI 1, hw_65)]
theorem m_cB65_3 : zMet X_X2_readInBrackets yX2_readInBrackets 25 g_cB65_3 := zMet_oc (m_X2_readInBracketst 22 _ m_cS65_4) e_cB65_3
set_option maxRecDepth 100000 in
theorem e_cF65_3 : (f_X2_readFactort g_cB65_3 g_cL65_3 g_cK65_3) [zR 2, zI 3] hw_65 (zrkL [(zI 0, hw_65), (zI 1, hw_65)]) = true := by decide +kernel
noncomputable def g_cF65_3 : List zV → zH 7 → zP 7 → Bool := zocs [zR 2, zI 3] hw_65 [(zI 0, hw_65), (zI 1, hw_65)]
theorem m_cF65_3 : zMet X_X2_readFactor yX2_readFactor 36 g_cF65_3 := zMet_oc (m_X2_readFactort _ _ _ _ _ _ m_cB65_3 m_cL65_3 m_cK65_3) e_cF65_3
set_option maxRecDepth 100000 in
theorem e_cT65_3 : (f_X2_readTermt g_cF65_3 g_X2_multiply_65) [zR 2, zI 3] hw_65 (zrkL [(zI 0, hw_65), (zI 1, hw_65)]) = true := by decide +kernel
noncomputable def g_cT65_3 : List zV → zH 7 → zP 7 → Bool := zocs [zR 2, zI 3] hw_65 [(zI 0, hw_65), (zI 1, hw_65)]
theorem m_cT65_3 : zMet X_X2_readTerm yX2_readTerm 40 g_cT65_3 := zMet_oc (m_X2_readTermt _ _ _ _ m_cF65_3 mg_X2_multiply_65) e_cT65_3
set_option maxRecDepth 100000 in
theorem e_cS65_3 : (f_X2_readSumt g_cT65_3 g_X2_add_65) [zR 2, zI 3] hw_65 (zrkL [(zI 0, hw_65), (zI 1, hw_65)]) = true := by decide +kernel
noncomputable def g_cS65_3 : List zV → zH 7 → zP 7 → Bool := zocs [zR 2, zI 3] hw_65 [(zI 0, hw_65), (zI 1, hw_65)]
theorem m_cS65_3 : zMet X_X2_readSum yX2_readSum 44 g_cS65_3 := zMet_oc (m_X2_readSumt _ _ _ _ m_cT65_3 mg_X2_add_65) e_cS65_3
noncomputable def h_cK65_2_o0 : zH 7 := (show zT 7 from ((((((zk_99_zs2_59_z65_readC_1, zk_99_zs2_59_z65_readC_2), (((17, 4, 0x9000000000601000000000100000004), (0, 15, zun 40 15 4294967296)), zk_99_zs2_59_z65_readC_3)), zk_99_zs2_59_z65_readC_6), zk_99_zs2_59_z65_readC_7), zk_99_zs2_59_z65_readC_9), zk_99_zs2_59_z65_readC_11), (110, (0, 0)))
set_option maxRecDepth 100000 in
theorem e_cK65_2 : (f_X2_takeCharactert g_cO65_0) [zR 2, zI 2, zI 4294967296] hw_65 (zrkL [(zI 0, h_cK65_2_o0), (zI 1, hw_65)]) = true := by decide +kernel
noncomputable def g_cK65_2 : List zV → zH 7 → zP 7 → Bool := zocs [zR 2, zI 2, zI 4294967296] hw_65 [(zI 0, h_cK65_2_o0), (zI 1, hw_65)]
theorem m_cK65_2 : zMet X_X2_takeCharacter yX2_takeCharacter 4 g_cK65_2 := zMet_oc (m_X2_takeCharactert _ _ m_cO65_0) e_cK65_2
set_option maxRecDepth 100000 in
theorem e_cL65_2 : f_X2_readSlott [zR 2, zI 2] hw_65 (zrkL [(zI 0, hw_65), (zI 1, hw_65)]) = true := by decide +kernel
noncomputable def g_cL65_2 : List zV → zH 7 → zP 7 → Bool := zocs [zR 2, zI 2] hw_65 [(zI 0, hw_65), (zI 1, hw_65)]
theorem m_cL65_2 : zMet X_X2_readSlot yX2_readSlot 3 g_cL65_2 := zMet_oc (m_X2_readSlott) e_cL65_2
set_option maxRecDepth 100000 in
theorem e_cB65_2 : (f_X2_readInBracketst g_cS65_3) [zR 2, zI 2] hv_65 (zrkL [(zI 0, hw_65), (zI 1, hw_65)]) = true := by decide +kernel
noncomputable def g_cB65_2 : List zV → zH 7 → zP 7 → Bool := zocs [zR 2, zI 2] hv_65 [(zI 0, hw_65), (zI 1, hw_65)]
theorem m_cB65_2 : zMet X_X2_readInBrackets yX2_readInBrackets 47 g_cB65_2 := zMet_oc (m_X2_readInBracketst 44 _ m_cS65_3) e_cB65_2
set_option maxRecDepth 100000 in
theorem e_cF65_2 : (f_X2_readFactort g_cB65_2 g_cL65_2 g_cK65_2) [zR 2, zI 2] hw_65 (zrkL [(zI 0, hw_65), (zI 1, hw_65)]) = true := by decide +kernel
noncomputable def g_cF65_2 : List zV → zH 7 → zP 7 → Bool := zocs [zR 2, zI 2] hw_65 [(zI 0, hw_65), (zI 1, hw_65)]
theorem m_cF65_2 : zMet X_X2_readFactor yX2_readFactor 58 g_cF65_2 := zMet_oc (m_X2_readFactort _ _ _ _ _ _ m_cB65_2 m_cL65_2 m_cK65_2) e_cF65_2
set_option maxRecDepth 100000 in
theorem e_cT65_2 : (f_X2_readTermt g_cF65_2 g_X2_multiply_65) [zR 2, zI 2] hw_65 (zrkL [(zI 0, hw_65), (zI 1, hw_65)]) = true := by decide +kernel
noncomputable def g_cT65_2 : List zV → zH 7 → zP 7 → Bool := zocs [zR 2, zI 2] hw_65 [(zI 0, hw_65), (zI 1, hw_65)]
theorem m_cT65_2 : zMet X_X2_readTerm yX2_readTerm 62 g_cT65_2 := zMet_oc (m_X2_readTermt _ _ _ _ m_cF65_2 mg_X2_multiply_65) e_cT65_2
set_option maxRecDepth 100000 in
theorem e_cS65_2 : (f_X2_readSumt g_cT65_2 g_X2_add_65) [zR 2, zI 2] hw_65 (zrkL [(zI 0, hw_65), (zI 1, hw_65)]) = true := by decide +kernel
noncomputable def g_cS65_2 : List zV → zH 7 → zP 7 → Bool := zocs [zR 2, zI 2] hw_65 [(zI 0, hw_65), (zI 1, hw_65)]
theorem m_cS65_2 : zMet X_X2_readSum yX2_readSum 66 g_cS65_2 := zMet_oc (m_X2_readSumt _ _ _ _ m_cT65_2 mg_X2_add_65) e_cS65_2
noncomputable def h_cK65_1_o0 : zH 7 := (show zT 7 from ((((((zk_99_zs2_59_z65_readC_1, zk_99_zs2_59_z65_readC_2), (((17, 4, 0x6000000000601000000000100000004), (0, 15, zun 40 15 4294967296)), zk_99_zs2_59_z65_readC_3)), zk_99_zs2_59_z65_readC_6), zk_99_zs2_59_z65_readC_7), zk_99_zs2_59_z65_readC_9), zk_99_zs2_59_z65_readC_11), (110, (0, 0)))
set_option maxRecDepth 100000 in
theorem e_cK65_1 : (f_X2_takeCharactert g_cO65_0) [zR 2, zI 1, zI 4294967296] hw_65 (zrkL [(zI 0, h_cK65_1_o0), (zI 1, hw_65)]) = true := by decide +kernel
noncomputable def g_cK65_1 : List zV → zH 7 → zP 7 → Bool := zocs [zR 2, zI 1, zI 4294967296] hw_65 [(zI 0, h_cK65_1_o0), (zI 1, hw_65)]
theorem m_cK65_1 : zMet X_X2_takeCharacter yX2_takeCharacter 4 g_cK65_1 := zMet_oc (m_X2_takeCharactert _ _ m_cO65_0) e_cK65_1
set_option maxRecDepth 100000 in
theorem e_cL65_1 : f_X2_readSlott [zR 2, zI 1] hw_65 (zrkL [(zI 0, hw_65), (zI 1, hw_65)]) = true := by decide +kernel
noncomputable def g_cL65_1 : List zV → zH 7 → zP 7 → Bool := zocs [zR 2, zI 1] hw_65 [(zI 0, hw_65), (zI 1, hw_65)]
theorem m_cL65_1 : zMet X_X2_readSlot yX2_readSlot 3 g_cL65_1 := zMet_oc (m_X2_readSlott) e_cL65_1
set_option maxRecDepth 100000 in
theorem e_cB65_1 : (f_X2_readInBracketst g_cS65_2) [zR 2, zI 1] hv_65 (zrkL [(zI 0, hw_65), (zI 1, hw_65)]) = true := by decide +kernel
noncomputable def g_cB65_1 : List zV → zH 7 → zP 7 → Bool := zocs [zR 2, zI 1] hv_65 [(zI 0, hw_65), (zI 1, hw_65)]
theorem m_cB65_1 : zMet X_X2_readInBrackets yX2_readInBrackets 69 g_cB65_1 := zMet_oc (m_X2_readInBracketst 66 _ m_cS65_2) e_cB65_1
set_option maxRecDepth 100000 in
theorem e_cF65_1 : (f_X2_readFactort g_cB65_1 g_cL65_1 g_cK65_1) [zR 2, zI 1] hw_65 (zrkL [(zI 0, hw_65), (zI 1, hw_65)]) = true := by decide +kernel
noncomputable def g_cF65_1 : List zV → zH 7 → zP 7 → Bool := zocs [zR 2, zI 1] hw_65 [(zI 0, hw_65), (zI 1, hw_65)]
theorem m_cF65_1 : zMet X_X2_readFactor yX2_readFactor 80 g_cF65_1 := zMet_oc (m_X2_readFactort _ _ _ _ _ _ m_cB65_1 m_cL65_1 m_cK65_1) e_cF65_1
set_option maxRecDepth 100000 in
theorem e_cT65_1 : (f_X2_readTermt g_cF65_1 g_X2_multiply_65) [zR 2, zI 1] hw_65 (zrkL [(zI 0, hw_65), (zI 1, hw_65)]) = true := by decide +kernel
noncomputable def g_cT65_1 : List zV → zH 7 → zP 7 → Bool := zocs [zR 2, zI 1] hw_65 [(zI 0, hw_65), (zI 1, hw_65)]
theorem m_cT65_1 : zMet X_X2_readTerm yX2_readTerm 84 g_cT65_1 := zMet_oc (m_X2_readTermt _ _ _ _ m_cF65_1 mg_X2_multiply_65) e_cT65_1
set_option maxRecDepth 100000 in
theorem e_cS65_1 : (f_X2_readSumt g_cT65_1 g_X2_add_65) [zR 2, zI 1] hw_65 (zrkL [(zI 0, hw_65), (zI 1, hw_65)]) = true := by decide +kernel
noncomputable def g_cS65_1 : List zV → zH 7 → zP 7 → Bool := zocs [zR 2, zI 1] hw_65 [(zI 0, hw_65), (zI 1, hw_65)]
theorem m_cS65_1 : zMet X_X2_readSum yX2_readSum 88 g_cS65_1 := zMet_oc (m_X2_readSumt _ _ _ _ m_cT65_1 mg_X2_add_65) e_cS65_1
noncomputable def h_cK65_0_o0 : zH 7 := (show zT 7 from ((((((zk_99_zs2_59_z65_readC_1, zk_99_zs2_59_z65_readC_2), (((17, 4, 0x3000000000601000000000100000004), (0, 15, zun 40 15 4294967296)), zk_99_zs2_59_z65_readC_3)), zk_99_zs2_59_z65_readC_6), zk_99_zs2_59_z65_readC_7), zk_99_zs2_59_z65_readC_9), zk_99_zs2_59_z65_readC_11), (110, (0, 0)))
set_option maxRecDepth 100000 in
theorem e_cK65_0 : (f_X2_takeCharactert g_cO65_0) [zR 2, zI 0, zI 4294967296] hw_65 (zrkL [(zI 0, h_cK65_0_o0), (zI 1, hw_65)]) = true := by decide +kernel
noncomputable def g_cK65_0 : List zV → zH 7 → zP 7 → Bool := zocs [zR 2, zI 0, zI 4294967296] hw_65 [(zI 0, h_cK65_0_o0), (zI 1, hw_65)]
theorem m_cK65_0 : zMet X_X2_takeCharacter yX2_takeCharacter 4 g_cK65_0 := zMet_oc (m_X2_takeCharactert _ _ m_cO65_0) e_cK65_0
set_option maxRecDepth 100000 in
theorem e_cL65_0 : f_X2_readSlott [zR 2, zI 0] hw_65 (zrkL [(zI 0, hw_65), (zI 1, hw_65)]) = true := by decide +kernel
noncomputable def g_cL65_0 : List zV → zH 7 → zP 7 → Bool := zocs [zR 2, zI 0] hw_65 [(zI 0, hw_65), (zI 1, hw_65)]
theorem m_cL65_0 : zMet X_X2_readSlot yX2_readSlot 3 g_cL65_0 := zMet_oc (m_X2_readSlott) e_cL65_0
set_option maxRecDepth 100000 in
theorem e_cB65_0 : (f_X2_readInBracketst g_cS65_1) [zR 2, zI 0] hv_65 (zrkL [(zI 0, hw_65), (zI 1, hw_65)]) = true := by decide +kernel
noncomputable def g_cB65_0 : List zV → zH 7 → zP 7 → Bool := zocs [zR 2, zI 0] hv_65 [(zI 0, hw_65), (zI 1, hw_65)]
theorem m_cB65_0 : zMet X_X2_readInBrackets yX2_readInBrackets 91 g_cB65_0 := zMet_oc (m_X2_readInBracketst 88 _ m_cS65_1) e_cB65_0
set_option maxRecDepth 100000 in
theorem e_cF65_0 : (f_X2_readFactort g_cB65_0 g_cL65_0 g_cK65_0) [zR 2, zI 0] hw_65 (zrkL [(zI 0, hw_65), (zI 1, hw_65)]) = true := by decide +kernel
noncomputable def g_cF65_0 : List zV → zH 7 → zP 7 → Bool := zocs [zR 2, zI 0] hw_65 [(zI 0, hw_65), (zI 1, hw_65)]
theorem m_cF65_0 : zMet X_X2_readFactor yX2_readFactor 102 g_cF65_0 := zMet_oc (m_X2_readFactort _ _ _ _ _ _ m_cB65_0 m_cL65_0 m_cK65_0) e_cF65_0
set_option maxRecDepth 100000 in
theorem e_cT65_0 : (f_X2_readTermt g_cF65_0 g_X2_multiply_65) [zR 2, zI 0] hw_65 (zrkL [(zI 0, hw_65), (zI 1, hw_65)]) = true := by decide +kernel
noncomputable def g_cT65_0 : List zV → zH 7 → zP 7 → Bool := zocs [zR 2, zI 0] hw_65 [(zI 0, hw_65), (zI 1, hw_65)]
theorem m_cT65_0 : zMet X_X2_readTerm yX2_readTerm 106 g_cT65_0 := zMet_oc (m_X2_readTermt _ _ _ _ m_cF65_0 mg_X2_multiply_65) e_cT65_0
set_option maxRecDepth 100000 in
theorem e_cS65_0 : (f_X2_readSumt g_cT65_0 g_X2_add_65) [zR 2, zI 0] hw_65 (zrkL [(zI 0, hw_65), (zI 1, hw_65)]) = true := by decide +kernel
noncomputable def g_cS65_0 : List zV → zH 7 → zP 7 → Bool := zocs [zR 2, zI 0] hw_65 [(zI 0, hw_65), (zI 1, hw_65)]
theorem m_cS65_0 : zMet X_X2_readSum yX2_readSum 110 g_cS65_0 := zMet_oc (m_X2_readSumt _ _ _ _ m_cT65_0 mg_X2_add_65) e_cS65_0
noncomputable def hw_65_t : zH 7 := (show zT 7 from ((((((zk_99_zs2_59_z65_readC_1, ((22, 2, 4), (0, 200, zun 40 200 4294967296))), zk_99_zs2_59_z65_readC_4), zk_99_zs2_59_z65_readC_6), zk_99_zs2_59_z65_readC_7), zk_99_zs2_59_z65_readC_9), zk_99_zs2_59_z65_readC_11), (110, (0, 0)))
set_option maxRecDepth 100000 in
theorem e_textC_65 : (zcutR 1 6 (f_X8_textt (f_X2_readt g_cS65_0))) [zR 1, zI 4294967296] hw_65 (zrkL [(zI 4294967296, hw_65_t)]) = true := by decide +kernel
noncomputable def g_textC_65 {d : Nat} : List zV → zH d → zP d → Bool := zsmyL [(0, 0), (1, 5), (1, 4), (3, 0), (2, 0), (5, 2), (2, 1), (7, 0), (7, 1), (7, 2), (7, 3), (7, 4), (2, 2), (13, 0), (13, 1), (13, 2), (13, 3), (13, 4), (2, 3), (19, 0), (19, 1), (19, 2), (19, 3), (19, 4), (2, 4), (2, 5), (2, 6), (2, 7), (1, 2), (29, 0), (29, 1), (29, 2), (29, 3), (29, 4), (29, 5), (2, 12), (36, 3), (37, 0), (37, 1), (37, 2), (37, 3), (37, 4), (37, 5), (37, 6), (37, 7), (37, 8), (37, 9), (37, 10), (38, 2), (39, 2), (40, 2), (41, 2), (42, 2), (43, 2), (44, 2), (45, 2), (46, 2), (47, 2), (48, 2), (36, 7), (36, 12), (61, 0), (61, 1), (61, 2), (61, 3), (61, 4), (61, 5), (61, 6), (61, 7), (61, 8), (61, 9), (61, 10), (36, 11), (73, 0), (73, 1), (73, 2), (73, 3), (73, 4), (73, 5), (73, 6), (73, 7), (73, 8), (73, 9), (73, 10), (2, 13), (85, 2), (85, 6), (87, 0), (87, 1), (87, 2), (87, 3), (87, 4), (87, 5), (87, 6), (87, 7), (87, 8), (87, 9), (87, 10), (85, 9), (99, 0), (99, 1), (99, 2), (99, 3), (99, 4), (99, 5), (99, 6), (99, 7), (99, 8), (99, 9), (99, 10)] [zR 1, zI 4294967296] hw_65 [(zI 4294967296, hw_65_t)]
theorem m_textC_65 {d : Nat} : zMet (d := d) X_X8_text yX8_text 115 g_textC_65 := zMet_smL (zMet_cutR (m_X8_textt _ _ (m_X2_readt _ _ m_cS65_0))) e_textC_65
end
section
/-! the class's reader at n = 67: by program -/
noncomputable def zk_99_zs2_59_z67_readC_0 : zC := (24, 8, 0x80000000088000000007000000000200000000038000000004000000001d80000000028000000001)
noncomputable def zk_99_zs2_59_z67_readC_1 : zT 1 := @Prod.mk (zT 0) (zT 0) zk_99_zs2_59_z67_readC_0 (18, 15, 0x1000000c900000000550000000024000000001d0000000003010000000001000000c9000000001c000000001b000000001a00000000190000000013000000000d00000000070000000005)
noncomputable def zk_99_zs2_59_z67_readC_2 : zT 1 := @Prod.mk (zT 0) (zT 0) (22, 2, 0x1000000c90000000004) (0, 200, zun 40 200 4294967296)
noncomputable def zk_99_zs2_59_z67_readC_3 : zT 1 := @Prod.mk (zT 0) (zT 0) (4, 5, 0xc000000000b000000000a00000000090000000008) (2, 11, zun 72 11 18446744073709551616)
noncomputable def zk_99_zs2_59_z67_readC_4 : zT 2 := @Prod.mk (zT 1) (zT 1) ((17, 4, 0x100000010000000000601000000000100000000), (0, 15, zun 40 15 4294967296)) zk_99_zs2_59_z67_readC_3
noncomputable def zk_99_zs2_59_z67_readC_5 : zT 1 := @Prod.mk (zT 0) (zT 0) (2, 11, zun 72 11 18446744073709551616) (2, 11, zun 72 11 18446744073709551616)
noncomputable def zk_99_zs2_59_z67_readC_6 : zT 3 := @Prod.mk (zT 2) (zT 2) (zk_99_zs2_59_z67_readC_5, zk_99_zs2_59_z67_readC_5) (((4, 5, 0x1200000000110000000010000000000f000000000e), (2, 11, zun 72 11 18446744073709551616)), zk_99_zs2_59_z67_readC_5)
noncomputable def zk_99_zs2_59_z67_readC_7 : zT 4 := @Prod.mk (zT 3) (zT 3) ((zk_99_zs2_59_z67_readC_5, ((4, 5, 0x180000000017000000001600000000150000000014), (2, 11, zun 72 11 18446744073709551616))), (zk_99_zs2_59_z67_readC_5, zk_99_zs2_59_z67_readC_5)) ((((0, 5, 0x1000000000100000000010000000001000000000100000000), (0, 5, 0x1000000000100000000010000000001000000000100000000)), ((0, 5, 0x1000000000100000000010000000001000000000100000000), (0, 6, 0x10000000001000000000100000000010000000001000000000100000000))), (((4, 6, 0x23000000002200000000210000000020000000001f000000001e), (2, 11, zun 72 11 18446744073709551616)), zk_99_zs2_59_z67_readC_5))
noncomputable def zk_99_zs2_59_z67_readC_8 : zT 1 := @Prod.mk (zT 0) (zT 0) (0, 11, zun 40 11 4294967296) (0, 11, zun 40 11 4294967296)
noncomputable def zk_99_zs2_59_z67_readC_9 : zT 5 := @Prod.mk (zT 4) (zT 4) (((zk_99_zs2_59_z67_readC_5, ((2, 11, zun 72 11 18446744073709551616), (23, 14, 0x80000008ce000000003d000000004980000008cb80000008ca80000008c9000000003c80000008c780000008c680000008c5000000002580000008c3000000000b80000008c1))), (((5, 11, 0x30000000002f000000002e000000002d000000002c000000002b000000002a0000000029000000002800000000270000000026), (20, 16, 0x8000000950800000094f800000094e800000094d800000094c800000094b800000094a800000094980000009488000000947800000094680000009458000000944000000003180000009428000000941)), ((20, 16, 0x8000000990800000098f800000098e800000098d800000098c800000098b800000098a800000098980000009888000000987800000098680000009858000000984000000003280000009828000000981), (20, 16, 0x80000009d080000009cf80000009ce80000009cd80000009cc80000009cb80000009ca80000009c980000009c880000009c780000009c680000009c580000009c4000000003380000009c280000009c1)))), ((((20, 16, 0x8000000a108000000a0f8000000a0e8000000a0d8000000a0c8000000a0b8000000a0a8000000a098000000a088000000a078000000a068000000a058000000a0400000000348000000a028000000a01), (20, 16, 0x8000000a508000000a4f8000000a4e8000000a4d8000000a4c8000000a4b8000000a4a8000000a498000000a488000000a478000000a468000000a458000000a4400000000358000000a428000000a41)), ((20, 16, 0x8000000a908000000a8f8000000a8e8000000a8d8000000a8c8000000a8b8000000a8a8000000a898000000a888000000a878000000a868000000a858000000a8400000000368000000a828000000a81), (20, 16, 0x8000000ad08000000acf8000000ace8000000acd8000000acc8000000acb8000000aca8000000ac98000000ac88000000ac78000000ac68000000ac58000000ac400000000378000000ac28000000ac1))), (((20, 16, 0x8000000b108000000b0f8000000b0e8000000b0d8000000b0c8000000b0b8000000b0a8000000b098000000b088000000b078000000b068000000b058000000b0400000000388000000b028000000b01), (20, 16, 0x8000000b508000000b4f8000000b4e8000000b4d8000000b4c8000000b4b8000000b4a8000000b498000000b488000000b478000000b468000000b458000000b4400000000398000000b428000000b41)), ((20, 16, 0x8000000b908000000b8f8000000b8e8000000b8d8000000b8c8000000b8b8000000b8a8000000b898000000b888000000b878000000b868000000b858000000b84000000003a8000000b828000000b81), (20, 16, 0x8000000bd08000000bcf8000000bce8000000bcd8000000bcc8000000bcb8000000bca8000000bc98000000bc88000000bc78000000bc68000000bc58000000bc4000000003b8000000bc28000000bc1))))) (((((0, 1, 6), (0, 2, 0x10000000005)), ((0, 2, 0x20000000004), (0, 3, 0x100000000010000000004))), (((0, 2, 0x30000000003), (0, 3, 0x100000000020000000003)), ((0, 4, 0x1000000000100000000010000000003), (0, 3, 0x200000000020000000002)))), ((((0, 4, 0x1000000000100000000020000000002), (0, 5, 0x10000000001000000000100000000010000000002)), ((0, 6, 0x100000000010000000001000000000100000000010000000001), (0, 11, 0x100ffffffff000000000100ffffffff000000000100ffffffff000000000100ffffffff0000000001000000000100ffffffff))), (((3, 11, 0x4800000000470000000046000000004500000000440000000043000000004200000000410000000040000000003f000000003e), (0, 11, zun 40 11 4294967296)), zk_99_zs2_59_z67_readC_8)))
noncomputable def zk_99_zs2_59_z67_readC_10 : zT 3 := @Prod.mk (zT 2) (zT 2) (zk_99_zs2_59_z67_readC_8, zk_99_zs2_59_z67_readC_8) (zk_99_zs2_59_z67_readC_8, zk_99_zs2_59_z67_readC_8)
noncomputable def zk_99_zs2_59_z67_readC_11 : zT 6 := @Prod.mk (zT 5) (zT 5) ((zk_99_zs2_59_z67_readC_10, ((((3, 11, 0x540000000053000000005200000000510000000050000000004f000000004e000000004d000000004c000000004b000000004a), (0, 11, zun 40 11 4294967296)), zk_99_zs2_59_z67_readC_8), (zk_99_zs2_59_z67_readC_8, zk_99_zs2_59_z67_readC_8))), (((zk_99_zs2_59_z67_readC_8, zk_99_zs2_59_z67_readC_8), (((21, 12, 0x800000150c800000150b0000000063800000150980000015080000000057800000150680000015058000001504000000005680000015028000001501), (0, 11, 0xa0000000009000000000800000000070000000006000000000500000000040000000003000000000200000000010000000000)), ((3, 11, 0x6200000000610000000060000000005f000000005e000000005d000000005c000000005b000000005a00000000590000000058), (0, 11, zun 40 11 4294967296)))), zk_99_zs2_59_z67_readC_10)) ((((zk_99_zs2_59_z67_readC_8, ((3, 11, 0x6e000000006d000000006c000000006b000000006a000000006900000000680000000067000000006600000000650000000064), (0, 11, zun 40 11 4294967296))), (zk_99_zs2_59_z67_readC_8, zk_99_zs2_59_z67_readC_8)), ((zk_99_zs2_59_z67_readC_8, zk_99_zs2_59_z67_readC_8), (zk_99_zs2_59_z67_readC_8, zO1))), zO4)
noncomputable def hw_67 : zH 7 := (show zT 7 from ((((((zk_99_zs2_59_z67_readC_1, zk_99_zs2_59_z67_readC_2), zk_99_zs2_59_z67_readC_4), zk_99_zs2_59_z67_readC_6), zk_99_zs2_59_z67_readC_7), zk_99_zs2_59_z67_readC_9), zk_99_zs2_59_z67_readC_11), (110, (0, 0)))
noncomputable def zk_99_zs2_59_z67_readC_12 : zT 2 := @Prod.mk (zT 1) (zT 1) (zk_99_zs2_59_z67_readC_0, (18, 15, 0x1000000c800000000550000000024000000001d0000000003010000000001000000c9000000001c000000001b000000001a00000000190000000013000000000d00000000070000000005)) zk_99_zs2_59_z67_readC_2
noncomputable def hv_67 : zH 7 := (show zT 7 from (((((zk_99_zs2_59_z67_readC_12, zk_99_zs2_59_z67_readC_4), zk_99_zs2_59_z67_readC_6), zk_99_zs2_59_z67_readC_7), zk_99_zs2_59_z67_readC_9), zk_99_zs2_59_z67_readC_11), (110, (0, 0)))
noncomputable def hs_X2_add_67 : zH 2 := (show zT 2 from (((18, 15, 0x800000000f800000000e0000000002800000000c800000000b800000000a800000000980000000088000000007800000000680000000058000000004800000000380000000028000000001), (23, 14, 0x800000004e800000004d800000004c800000004b800000004a8000000049800000004880000000478000000046800000004580000000448000000043000000000b8000000041)), zk_99_zs2_59_z67_readC_5), (4, (0, 0)))
noncomputable def hs_X2_add_67_o0 : zH 2 := (show zT 2 from (((18, 15, 0x800000000f800000000e0000000002800000000c800000000b800000000a800000000980000000088000000007800000000680000000058000000004800000000380000000028000000001), (23, 14, 0x800000004e800000004d800000004c800000004b800000004a8000000049800000004880000000478000000046800000004580000000448000000043000000000b8000000041)), zk_99_zs2_59_z67_readC_5), (4, (0, 0)))
noncomputable def hs_X2_add_67_o1 : zH 2 := (show zT 2 from (((18, 15, 0x800000000f800000000e0000000002800000000c800000000b800000000a800000000980000000088000000007800000000680000000058000000004800000000380000000028000000001), (23, 14, 0x800000004e800000004d800000004c800000004b800000004a8000000049800000004880000000478000000046800000004580000000448000000043000000000b8000000041)), zk_99_zs2_59_z67_readC_5), (4, (0, 0)))
set_option maxRecDepth 100000 in
theorem ev_X2_add_67 : f_X2_addt [zR 1, zR 3, zI 4294967298, zR 4] hs_X2_add_67 (zrkL [(zI 0, hs_X2_add_67_o0), (zI 1, hs_X2_add_67_o1)]) = true := by decide +kernel
noncomputable def g_X2_add_67 {d : Nat} : List zV → zH d → zP d → Bool := zsmyL [(0, 0), (1, 12), (0, 1), (0, 3)] [zR 1, zR 3, zI 4294967298, zR 4] hs_X2_add_67 [(zI 0, hs_X2_add_67_o0), (zI 1, hs_X2_add_67_o1)]
theorem mg_X2_add_67 {d : Nat} : zMet (d := d) X_X2_add yX2_add 1 g_X2_add_67 := zMet_smL m_X2_addt ev_X2_add_67

noncomputable def hs_X2_multiply_67 : zH 2 := (show zT 2 from (((18, 15, 0x800000000f800000000e0000000002800000000c800000000b800000000a800000000980000000088000000007800000000680000000058000000004800000000380000000028000000001), (23, 14, 0x800000004e800000004d800000004c800000004b800000004a8000000049800000004880000000478000000046800000004580000000448000000043000000000b8000000041)), zk_99_zs2_59_z67_readC_5), (4, (0, 0)))
noncomputable def hs_X2_multiply_67_o0 : zH 2 := (show zT 2 from (((18, 15, 0x800000000f800000000e0000000002800000000c800000000b800000000a800000000980000000088000000007800000000680000000058000000004800000000380000000028000000001), (23, 14, 0x800000004e800000004d800000004c800000004b800000004a8000000049800000004880000000478000000046800000004580000000448000000043000000000b8000000041)), zk_99_zs2_59_z67_readC_5), (4, (0, 0)))
noncomputable def hs_X2_multiply_67_o1 : zH 2 := (show zT 2 from (((18, 15, 0x800000000f800000000e0000000002800000000c800000000b800000000a800000000980000000088000000007800000000680000000058000000004800000000380000000028000000001), (23, 14, 0x800000004e800000004d800000004c800000004b800000004a8000000049800000004880000000478000000046800000004580000000448000000043000000000b8000000041)), zk_99_zs2_59_z67_readC_5), (4, (0, 0)))
set_option maxRecDepth 100000 in
theorem ev_X2_multiply_67 : f_X2_multiplyt [zR 1, zR 3, zR 4] hs_X2_multiply_67 (zrkL [(zI 0, hs_X2_multiply_67_o0), (zI 1, hs_X2_multiply_67_o1)]) = true := by decide +kernel
noncomputable def g_X2_multiply_67 {d : Nat} : List zV → zH d → zP d → Bool := zsmyL [(0, 0), (1, 12), (0, 1), (0, 2)] [zR 1, zR 3, zR 4] hs_X2_multiply_67 [(zI 0, hs_X2_multiply_67_o0), (zI 1, hs_X2_multiply_67_o1)]
theorem mg_X2_multiply_67 {d : Nat} : zMet (d := d) X_X2_multiply yX2_multiply 1 g_X2_multiply_67 := zMet_smL m_X2_multiplyt ev_X2_multiply_67

set_option maxRecDepth 100000 in
theorem e_cO67_0 : f_X7_numberOft [zR 36, zR 28, zI 4294967497] hw_67 (zrkL [(zI 4294967295, hw_67), (zI 4294967307, hw_67)]) = true := by decide +kernel
noncomputable def g_cO67_0 : List zV → zH 7 → zP 7 → Bool := zocs [zR 36, zR 28, zI 4294967497] hw_67 [(zI 4294967295, hw_67), (zI 4294967307, hw_67)]
theorem m_cO67_0 : zMet X_X7_numberOf yX7_numberOf 1 g_cO67_0 := zMet_oc (m_X7_numberOft) e_cO67_0
noncomputable def h_cK67_4_o0 : zH 7 := (show zT 7 from ((((((zk_99_zs2_59_z67_readC_1, zk_99_zs2_59_z67_readC_2), (((17, 4, 0xf000000000601000000000000000002), (0, 15, zun 40 15 4294967296)), zk_99_zs2_59_z67_readC_3)), zk_99_zs2_59_z67_readC_6), zk_99_zs2_59_z67_readC_7), zk_99_zs2_59_z67_readC_9), zk_99_zs2_59_z67_readC_11), (110, (0, 0)))
set_option maxRecDepth 100000 in
theorem e_cK67_4 : (f_X2_takeCharactert g_cO67_0) [zR 2, zI 4, zI 4294967296] hw_67 (zrkL [(zI 0, h_cK67_4_o0), (zI 1, hw_67)]) = true := by decide +kernel
noncomputable def g_cK67_4 : List zV → zH 7 → zP 7 → Bool := zocs [zR 2, zI 4, zI 4294967296] hw_67 [(zI 0, h_cK67_4_o0), (zI 1, hw_67)]
theorem m_cK67_4 : zMet X_X2_takeCharacter yX2_takeCharacter 4 g_cK67_4 := zMet_oc (m_X2_takeCharactert _ _ m_cO67_0) e_cK67_4
set_option maxRecDepth 100000 in
theorem e_cL67_4 : f_X2_readSlott [zR 2, zI 4] hw_67 (zrkL [(zI 0, hw_67), (zI 1, hw_67)]) = true := by decide +kernel
noncomputable def g_cL67_4 : List zV → zH 7 → zP 7 → Bool := zocs [zR 2, zI 4] hw_67 [(zI 0, hw_67), (zI 1, hw_67)]
theorem m_cL67_4 : zMet X_X2_readSlot yX2_readSlot 3 g_cL67_4 := zMet_oc (m_X2_readSlott) e_cL67_4
noncomputable def h_cB67_4_o0 : zH 7 := (show zT 7 from (((((zk_99_zs2_59_z67_readC_12, (((17, 4, 0xf000000000601000000c80000000005), (0, 15, zun 40 15 4294967296)), zk_99_zs2_59_z67_readC_3)), zk_99_zs2_59_z67_readC_6), zk_99_zs2_59_z67_readC_7), zk_99_zs2_59_z67_readC_9), zk_99_zs2_59_z67_readC_11), (110, (0, 0)))
set_option maxRecDepth 100000 in
theorem e_cB67_4 : (f_X2_readInBracketst (fun _ _ _ => false)) [zR 2, zI 4] hv_67 (zrkL [(zI 0, h_cB67_4_o0)]) = true := by decide +kernel
noncomputable def g_cB67_4 : List zV → zH 7 → zP 7 → Bool := zocs [zR 2, zI 4] hv_67 [(zI 0, h_cB67_4_o0)]
theorem m_cB67_4 : zMet X_X2_readInBrackets yX2_readInBrackets 3 g_cB67_4 := zMet_oc (m_X2_readInBracketst 0 _ zfalse) e_cB67_4
set_option maxRecDepth 100000 in
theorem e_cF67_4 : (f_X2_readFactort g_cB67_4 g_cL67_4 g_cK67_4) [zR 2, zI 4] hw_67 (zrkL [(zI 0, hw_67), (zI 1, hw_67)]) = true := by decide +kernel
noncomputable def g_cF67_4 : List zV → zH 7 → zP 7 → Bool := zocs [zR 2, zI 4] hw_67 [(zI 0, hw_67), (zI 1, hw_67)]
theorem m_cF67_4 : zMet X_X2_readFactor yX2_readFactor 14 g_cF67_4 := zMet_oc (m_X2_readFactort _ _ _ _ _ _ m_cB67_4 m_cL67_4 m_cK67_4) e_cF67_4
set_option maxRecDepth 100000 in
theorem e_cT67_4 : (f_X2_readTermt g_cF67_4 g_X2_multiply_67) [zR 2, zI 4] hw_67 (zrkL [(zI 0, hw_67), (zI 1, hw_67)]) = true := by decide +kernel
noncomputable def g_cT67_4 : List zV → zH 7 → zP 7 → Bool := zocs [zR 2, zI 4] hw_67 [(zI 0, hw_67), (zI 1, hw_67)]
theorem m_cT67_4 : zMet X_X2_readTerm yX2_readTerm 18 g_cT67_4 := zMet_oc (m_X2_readTermt _ _ _ _ m_cF67_4 mg_X2_multiply_67) e_cT67_4
set_option maxRecDepth 100000 in
theorem e_cS67_4 : (f_X2_readSumt g_cT67_4 g_X2_add_67) [zR 2, zI 4] hw_67 (zrkL [(zI 0, hw_67), (zI 1, hw_67)]) = true := by decide +kernel
noncomputable def g_cS67_4 : List zV → zH 7 → zP 7 → Bool := zocs [zR 2, zI 4] hw_67 [(zI 0, hw_67), (zI 1, hw_67)]
theorem m_cS67_4 : zMet X_X2_readSum yX2_readSum 22 g_cS67_4 := zMet_oc (m_X2_readSumt _ _ _ _ m_cT67_4 mg_X2_add_67) e_cS67_4
noncomputable def h_cK67_3_o0 : zH 7 := (show zT 7 from ((((((zk_99_zs2_59_z67_readC_1, zk_99_zs2_59_z67_readC_2), (((17, 4, 0xc000000000601000000000000000002), (0, 15, zun 40 15 4294967296)), zk_99_zs2_59_z67_readC_3)), zk_99_zs2_59_z67_readC_6), zk_99_zs2_59_z67_readC_7), zk_99_zs2_59_z67_readC_9), zk_99_zs2_59_z67_readC_11), (110, (0, 0)))
set_option maxRecDepth 100000 in
theorem e_cK67_3 : (f_X2_takeCharactert g_cO67_0) [zR 2, zI 3, zI 4294967296] hw_67 (zrkL [(zI 0, h_cK67_3_o0), (zI 1, hw_67)]) = true := by decide +kernel
noncomputable def g_cK67_3 : List zV → zH 7 → zP 7 → Bool := zocs [zR 2, zI 3, zI 4294967296] hw_67 [(zI 0, h_cK67_3_o0), (zI 1, hw_67)]
theorem m_cK67_3 : zMet X_X2_takeCharacter yX2_takeCharacter 4 g_cK67_3 := zMet_oc (m_X2_takeCharactert _ _ m_cO67_0) e_cK67_3
set_option maxRecDepth 100000 in
theorem e_cL67_3 : f_X2_readSlott [zR 2, zI 3] hw_67 (zrkL [(zI 0, hw_67), (zI 1, hw_67)]) = true := by decide +kernel
noncomputable def g_cL67_3 : List zV → zH 7 → zP 7 → Bool := zocs [zR 2, zI 3] hw_67 [(zI 0, hw_67), (zI 1, hw_67)]
theorem m_cL67_3 : zMet X_X2_readSlot yX2_readSlot 3 g_cL67_3 := zMet_oc (m_X2_readSlott) e_cL67_3
set_option maxRecDepth 100000 in
theorem e_cB67_3 : (f_X2_readInBracketst g_cS67_4) [zR 2, zI 3] hv_67 (zrkL [(zI 0, hw_67), (zI 1, hw_67)]) = true := by decide +kernel
noncomputable def g_cB67_3 : List zV → zH 7 → zP 7 → Bool := zocs [zR 2, zI 3] hv_67 [(zI 0, hw_67), (zI 1, hw_67)]
theorem m_cB67_3 : zMet X_X2_readInBrackets yX2_readInBrackets 25 g_cB67_3 := zMet_oc (m_X2_readInBracketst 22 _ m_cS67_4) e_cB67_3
set_option maxRecDepth 100000 in
theorem e_cF67_3 : (f_X2_readFactort g_cB67_3 g_cL67_3 g_cK67_3) [zR 2, zI 3] hw_67 (zrkL [(zI 0, hw_67), (zI 1, hw_67)]) = true := by decide +kernel
noncomputable def g_cF67_3 : List zV → zH 7 → zP 7 → Bool := zocs [zR 2, zI 3] hw_67 [(zI 0, hw_67), (zI 1, hw_67)]
theorem m_cF67_3 : zMet X_X2_readFactor yX2_readFactor 36 g_cF67_3 := zMet_oc (m_X2_readFactort _ _ _ _ _ _ m_cB67_3 m_cL67_3 m_cK67_3) e_cF67_3
set_option maxRecDepth 100000 in
theorem e_cT67_3 : (f_X2_readTermt g_cF67_3 g_X2_multiply_67) [zR 2, zI 3] hw_67 (zrkL [(zI 0, hw_67), (zI 1, hw_67)]) = true := by decide +kernel
noncomputable def g_cT67_3 : List zV → zH 7 → zP 7 → Bool := zocs [zR 2, zI 3] hw_67 [(zI 0, hw_67), (zI 1, hw_67)]
theorem m_cT67_3 : zMet X_X2_readTerm yX2_readTerm 40 g_cT67_3 := zMet_oc (m_X2_readTermt _ _ _ _ m_cF67_3 mg_X2_multiply_67) e_cT67_3
set_option maxRecDepth 100000 in
theorem e_cS67_3 : (f_X2_readSumt g_cT67_3 g_X2_add_67) [zR 2, zI 3] hw_67 (zrkL [(zI 0, hw_67), (zI 1, hw_67)]) = true := by decide +kernel
noncomputable def g_cS67_3 : List zV → zH 7 → zP 7 → Bool := zocs [zR 2, zI 3] hw_67 [(zI 0, hw_67), (zI 1, hw_67)]
theorem m_cS67_3 : zMet X_X2_readSum yX2_readSum 44 g_cS67_3 := zMet_oc (m_X2_readSumt _ _ _ _ m_cT67_3 mg_X2_add_67) e_cS67_3
noncomputable def h_cK67_2_o0 : zH 7 := (show zT 7 from ((((((zk_99_zs2_59_z67_readC_1, zk_99_zs2_59_z67_readC_2), (((17, 4, 0x9000000000601000000000000000002), (0, 15, zun 40 15 4294967296)), zk_99_zs2_59_z67_readC_3)), zk_99_zs2_59_z67_readC_6), zk_99_zs2_59_z67_readC_7), zk_99_zs2_59_z67_readC_9), zk_99_zs2_59_z67_readC_11), (110, (0, 0)))
set_option maxRecDepth 100000 in
theorem e_cK67_2 : (f_X2_takeCharactert g_cO67_0) [zR 2, zI 2, zI 4294967296] hw_67 (zrkL [(zI 0, h_cK67_2_o0), (zI 1, hw_67)]) = true := by decide +kernel
noncomputable def g_cK67_2 : List zV → zH 7 → zP 7 → Bool := zocs [zR 2, zI 2, zI 4294967296] hw_67 [(zI 0, h_cK67_2_o0), (zI 1, hw_67)]
theorem m_cK67_2 : zMet X_X2_takeCharacter yX2_takeCharacter 4 g_cK67_2 := zMet_oc (m_X2_takeCharactert _ _ m_cO67_0) e_cK67_2
set_option maxRecDepth 100000 in
theorem e_cL67_2 : f_X2_readSlott [zR 2, zI 2] hw_67 (zrkL [(zI 0, hw_67), (zI 1, hw_67)]) = true := by decide +kernel
noncomputable def g_cL67_2 : List zV → zH 7 → zP 7 → Bool := zocs [zR 2, zI 2] hw_67 [(zI 0, hw_67), (zI 1, hw_67)]
theorem m_cL67_2 : zMet X_X2_readSlot yX2_readSlot 3 g_cL67_2 := zMet_oc (m_X2_readSlott) e_cL67_2
set_option maxRecDepth 100000 in
theorem e_cB67_2 : (f_X2_readInBracketst g_cS67_3) [zR 2, zI 2] hv_67 (zrkL [(zI 0, hw_67), (zI 1, hw_67)]) = true := by decide +kernel
noncomputable def g_cB67_2 : List zV → zH 7 → zP 7 → Bool := zocs [zR 2, zI 2] hv_67 [(zI 0, hw_67), (zI 1, hw_67)]
theorem m_cB67_2 : zMet X_X2_readInBrackets yX2_readInBrackets 47 g_cB67_2 := zMet_oc (m_X2_readInBracketst 44 _ m_cS67_3) e_cB67_2
set_option maxRecDepth 100000 in
theorem e_cF67_2 : (f_X2_readFactort g_cB67_2 g_cL67_2 g_cK67_2) [zR 2, zI 2] hw_67 (zrkL [(zI 0, hw_67), (zI 1, hw_67)]) = true := by decide +kernel
noncomputable def g_cF67_2 : List zV → zH 7 → zP 7 → Bool := zocs [zR 2, zI 2] hw_67 [(zI 0, hw_67), (zI 1, hw_67)]
theorem m_cF67_2 : zMet X_X2_readFactor yX2_readFactor 58 g_cF67_2 := zMet_oc (m_X2_readFactort _ _ _ _ _ _ m_cB67_2 m_cL67_2 m_cK67_2) e_cF67_2
set_option maxRecDepth 100000 in
theorem e_cT67_2 : (f_X2_readTermt g_cF67_2 g_X2_multiply_67) [zR 2, zI 2] hw_67 (zrkL [(zI 0, hw_67), (zI 1, hw_67)]) = true := by decide +kernel
noncomputable def g_cT67_2 : List zV → zH 7 → zP 7 → Bool := zocs [zR 2, zI 2] hw_67 [(zI 0, hw_67), (zI 1, hw_67)]
theorem m_cT67_2 : zMet X_X2_readTerm yX2_readTerm 62 g_cT67_2 := zMet_oc (m_X2_readTermt _ _ _ _ m_cF67_2 mg_X2_multiply_67) e_cT67_2
set_option maxRecDepth 100000 in
theorem e_cS67_2 : (f_X2_readSumt g_cT67_2 g_X2_add_67) [zR 2, zI 2] hw_67 (zrkL [(zI 0, hw_67), (zI 1, hw_67)]) = true := by decide +kernel
noncomputable def g_cS67_2 : List zV → zH 7 → zP 7 → Bool := zocs [zR 2, zI 2] hw_67 [(zI 0, hw_67), (zI 1, hw_67)]
theorem m_cS67_2 : zMet X_X2_readSum yX2_readSum 66 g_cS67_2 := zMet_oc (m_X2_readSumt _ _ _ _ m_cT67_2 mg_X2_add_67) e_cS67_2
noncomputable def h_cK67_1_o0 : zH 7 := (show zT 7 from ((((((zk_99_zs2_59_z67_readC_1, zk_99_zs2_59_z67_readC_2), (((17, 4, 0x6000000000601000000000000000002), (0, 15, zun 40 15 4294967296)), zk_99_zs2_59_z67_readC_3)), zk_99_zs2_59_z67_readC_6), zk_99_zs2_59_z67_readC_7), zk_99_zs2_59_z67_readC_9), zk_99_zs2_59_z67_readC_11), (110, (0, 0)))
set_option maxRecDepth 100000 in
theorem e_cK67_1 : (f_X2_takeCharactert g_cO67_0) [zR 2, zI 1, zI 4294967296] hw_67 (zrkL [(zI 0, h_cK67_1_o0), (zI 1, hw_67)]) = true := by decide +kernel
noncomputable def g_cK67_1 : List zV → zH 7 → zP 7 → Bool := zocs [zR 2, zI 1, zI 4294967296] hw_67 [(zI 0, h_cK67_1_o0), (zI 1, hw_67)]
theorem m_cK67_1 : zMet X_X2_takeCharacter yX2_takeCharacter 4 g_cK67_1 := zMet_oc (m_X2_takeCharactert _ _ m_cO67_0) e_cK67_1
set_option maxRecDepth 100000 in
theorem e_cL67_1 : f_X2_readSlott [zR 2, zI 1] hw_67 (zrkL [(zI 0, hw_67), (zI 1, hw_67)]) = true := by decide +kernel
noncomputable def g_cL67_1 : List zV → zH 7 → zP 7 → Bool := zocs [zR 2, zI 1] hw_67 [(zI 0, hw_67), (zI 1, hw_67)]
theorem m_cL67_1 : zMet X_X2_readSlot yX2_readSlot 3 g_cL67_1 := zMet_oc (m_X2_readSlott) e_cL67_1
set_option maxRecDepth 100000 in
theorem e_cB67_1 : (f_X2_readInBracketst g_cS67_2) [zR 2, zI 1] hv_67 (zrkL [(zI 0, hw_67), (zI 1, hw_67)]) = true := by decide +kernel
noncomputable def g_cB67_1 : List zV → zH 7 → zP 7 → Bool := zocs [zR 2, zI 1] hv_67 [(zI 0, hw_67), (zI 1, hw_67)]
theorem m_cB67_1 : zMet X_X2_readInBrackets yX2_readInBrackets 69 g_cB67_1 := zMet_oc (m_X2_readInBracketst 66 _ m_cS67_2) e_cB67_1
set_option maxRecDepth 100000 in
theorem e_cF67_1 : (f_X2_readFactort g_cB67_1 g_cL67_1 g_cK67_1) [zR 2, zI 1] hw_67 (zrkL [(zI 0, hw_67), (zI 1, hw_67)]) = true := by decide +kernel
noncomputable def g_cF67_1 : List zV → zH 7 → zP 7 → Bool := zocs [zR 2, zI 1] hw_67 [(zI 0, hw_67), (zI 1, hw_67)]
theorem m_cF67_1 : zMet X_X2_readFactor yX2_readFactor 80 g_cF67_1 := zMet_oc (m_X2_readFactort _ _ _ _ _ _ m_cB67_1 m_cL67_1 m_cK67_1) e_cF67_1
set_option maxRecDepth 100000 in
theorem e_cT67_1 : (f_X2_readTermt g_cF67_1 g_X2_multiply_67) [zR 2, zI 1] hw_67 (zrkL [(zI 0, hw_67), (zI 1, hw_67)]) = true := by decide +kernel
noncomputable def g_cT67_1 : List zV → zH 7 → zP 7 → Bool := zocs [zR 2, zI 1] hw_67 [(zI 0, hw_67), (zI 1, hw_67)]
theorem m_cT67_1 : zMet X_X2_readTerm yX2_readTerm 84 g_cT67_1 := zMet_oc (m_X2_readTermt _ _ _ _ m_cF67_1 mg_X2_multiply_67) e_cT67_1
set_option maxRecDepth 100000 in
theorem e_cS67_1 : (f_X2_readSumt g_cT67_1 g_X2_add_67) [zR 2, zI 1] hw_67 (zrkL [(zI 0, hw_67), (zI 1, hw_67)]) = true := by decide +kernel
noncomputable def g_cS67_1 : List zV → zH 7 → zP 7 → Bool := zocs [zR 2, zI 1] hw_67 [(zI 0, hw_67), (zI 1, hw_67)]
theorem m_cS67_1 : zMet X_X2_readSum yX2_readSum 88 g_cS67_1 := zMet_oc (m_X2_readSumt _ _ _ _ m_cT67_1 mg_X2_add_67) e_cS67_1
noncomputable def h_cK67_0_o0 : zH 7 := (show zT 7 from ((((((zk_99_zs2_59_z67_readC_1, zk_99_zs2_59_z67_readC_2), (((17, 4, 0x3000000000601000000000000000002), (0, 15, zun 40 15 4294967296)), zk_99_zs2_59_z67_readC_3)), zk_99_zs2_59_z67_readC_6), zk_99_zs2_59_z67_readC_7), zk_99_zs2_59_z67_readC_9), zk_99_zs2_59_z67_readC_11), (110, (0, 0)))
set_option maxRecDepth 100000 in
theorem e_cK67_0 : (f_X2_takeCharactert g_cO67_0) [zR 2, zI 0, zI 4294967296] hw_67 (zrkL [(zI 0, h_cK67_0_o0), (zI 1, hw_67)]) = true := by decide +kernel
noncomputable def g_cK67_0 : List zV → zH 7 → zP 7 → Bool := zocs [zR 2, zI 0, zI 4294967296] hw_67 [(zI 0, h_cK67_0_o0), (zI 1, hw_67)]
theorem m_cK67_0 : zMet X_X2_takeCharacter yX2_takeCharacter 4 g_cK67_0 := zMet_oc (m_X2_takeCharactert _ _ m_cO67_0) e_cK67_0
set_option maxRecDepth 100000 in
theorem e_cL67_0 : f_X2_readSlott [zR 2, zI 0] hw_67 (zrkL [(zI 0, hw_67), (zI 1, hw_67)]) = true := by decide +kernel
noncomputable def g_cL67_0 : List zV → zH 7 → zP 7 → Bool := zocs [zR 2, zI 0] hw_67 [(zI 0, hw_67), (zI 1, hw_67)]
theorem m_cL67_0 : zMet X_X2_readSlot yX2_readSlot 3 g_cL67_0 := zMet_oc (m_X2_readSlott) e_cL67_0
set_option maxRecDepth 100000 in
theorem e_cB67_0 : (f_X2_readInBracketst g_cS67_1) [zR 2, zI 0] hv_67 (zrkL [(zI 0, hw_67), (zI 1, hw_67)]) = true := by decide +kernel
noncomputable def g_cB67_0 : List zV → zH 7 → zP 7 → Bool := zocs [zR 2, zI 0] hv_67 [(zI 0, hw_67), (zI 1, hw_67)]
theorem m_cB67_0 : zMet X_X2_readInBrackets yX2_readInBrackets 91 g_cB67_0 := zMet_oc (m_X2_readInBracketst 88 _ m_cS67_1) e_cB67_0
set_option maxRecDepth 100000 in
theorem e_cF67_0 : (f_X2_readFactort g_cB67_0 g_cL67_0 g_cK67_0) [zR 2, zI 0] hw_67 (zrkL [(zI 0, hw_67), (zI 1, hw_67)]) = true := by decide +kernel
noncomputable def g_cF67_0 : List zV → zH 7 → zP 7 → Bool := zocs [zR 2, zI 0] hw_67 [(zI 0, hw_67), (zI 1, hw_67)]
theorem m_cF67_0 : zMet X_X2_readFactor yX2_readFactor 102 g_cF67_0 := zMet_oc (m_X2_readFactort _ _ _ _ _ _ m_cB67_0 m_cL67_0 m_cK67_0) e_cF67_0
set_option maxRecDepth 100000 in
theorem e_cT67_0 : (f_X2_readTermt g_cF67_0 g_X2_multiply_67) [zR 2, zI 0] hw_67 (zrkL [(zI 0, hw_67), (zI 1, hw_67)]) = true := by decide +kernel
noncomputable def g_cT67_0 : List zV → zH 7 → zP 7 → Bool := zocs [zR 2, zI 0] hw_67 [(zI 0, hw_67), (zI 1, hw_67)]
theorem m_cT67_0 : zMet X_X2_readTerm yX2_readTerm 106 g_cT67_0 := zMet_oc (m_X2_readTermt _ _ _ _ m_cF67_0 mg_X2_multiply_67) e_cT67_0
set_option maxRecDepth 100000 in
theorem e_cS67_0 : (f_X2_readSumt g_cT67_0 g_X2_add_67) [zR 2, zI 0] hw_67 (zrkL [(zI 0, hw_67), (zI 1, hw_67)]) = true := by decide +kernel
noncomputable def g_cS67_0 : List zV → zH 7 → zP 7 → Bool := zocs [zR 2, zI 0] hw_67 [(zI 0, hw_67), (zI 1, hw_67)]
theorem m_cS67_0 : zMet X_X2_readSum yX2_readSum 110 g_cS67_0 := zMet_oc (m_X2_readSumt _ _ _ _ m_cT67_0 mg_X2_add_67) e_cS67_0
noncomputable def hw_67_t : zH 7 := (show zT 7 from ((((((zk_99_zs2_59_z67_readC_1, ((22, 2, 4), (0, 200, zun 40 200 4294967296))), zk_99_zs2_59_z67_readC_4), zk_99_zs2_59_z67_readC_6), zk_99_zs2_59_z67_readC_7), zk_99_zs2_59_z67_readC_9), zk_99_zs2_59_z67_readC_11), (110, (0, 0)))
set_option maxRecDepth 100000 in
theorem e_textC_67 : (zcutR 1 6 (f_X8_textt (f_X2_readt g_cS67_0))) [zR 1, zI 4294967296] hw_67 (zrkL [(zI 4294967296, hw_67_t)]) = true := by decide +kernel
noncomputable def g_textC_67 {d : Nat} : List zV → zH d → zP d → Bool := zsmyL [(0, 0), (1, 5), (1, 4), (3, 0), (2, 0), (5, 2), (2, 1), (7, 0), (7, 1), (7, 2), (7, 3), (7, 4), (2, 2), (13, 0), (13, 1), (13, 2), (13, 3), (13, 4), (2, 3), (19, 0), (19, 1), (19, 2), (19, 3), (19, 4), (2, 4), (2, 5), (2, 6), (2, 7), (1, 2), (29, 0), (29, 1), (29, 2), (29, 3), (29, 4), (29, 5), (2, 12), (36, 3), (37, 0), (37, 1), (37, 2), (37, 3), (37, 4), (37, 5), (37, 6), (37, 7), (37, 8), (37, 9), (37, 10), (38, 2), (39, 2), (40, 2), (41, 2), (42, 2), (43, 2), (44, 2), (45, 2), (46, 2), (47, 2), (48, 2), (36, 7), (36, 12), (61, 0), (61, 1), (61, 2), (61, 3), (61, 4), (61, 5), (61, 6), (61, 7), (61, 8), (61, 9), (61, 10), (36, 11), (73, 0), (73, 1), (73, 2), (73, 3), (73, 4), (73, 5), (73, 6), (73, 7), (73, 8), (73, 9), (73, 10), (2, 13), (85, 2), (85, 6), (87, 0), (87, 1), (87, 2), (87, 3), (87, 4), (87, 5), (87, 6), (87, 7), (87, 8), (87, 9), (87, 10), (85, 9), (99, 0), (99, 1), (99, 2), (99, 3), (99, 4), (99, 5), (99, 6), (99, 7), (99, 8), (99, 9), (99, 10)] [zR 1, zI 4294967296] hw_67 [(zI 4294967296, hw_67_t)]
theorem m_textC_67 {d : Nat} : zMet (d := d) X_X8_text yX8_text 115 g_textC_67 := zMet_smL (zMet_cutR (m_X8_textt _ _ (m_X2_readt _ _ m_cS67_0))) e_textC_67
end
